set_option maxRecDepth 20000 in
theorem ggX6_init_X0_init : GoodIn wsX6_init wsX0_init := goodIn_r _ [32, 33, 2, 3, 12, 34, 35, 84, 85] (by decide +kernel) (by decide +kernel)
set_option maxRecDepth 20000 in
theorem gX6_init_X0_init : GoodIn wsX6_init (wsX0_init) := ggX6_init_X0_init
set_option maxRecDepth 20000 in
theorem ggX6_init_X2_init : GoodIn wsX6_init wsX2_init := goodIn_r _ [38, 39, 2, 3, 40, 12, 41, 42, 43, 95, 96, 97] (by decide +kernel) (by decide +kernel)
set_option maxRecDepth 20000 in
theorem gX6_init_X2_init : GoodIn wsX6_init (wsX2_init) := ggX6_init_X2_init
set_option maxRecDepth 20000 in
theorem ggX6_init_X3_init : GoodIn wsX6_init wsX3_init := goodIn_r _ [46, 47, 2, 3, 48, 49, 50, 51, 12, 52, 53, 54, 55, 56, 57, 58, 59, 60, 61, 62, 63, 64, 113, 114, 98, 99, 100, 101, 102, 103, 104] (by decide +kernel) (by decide +kernel)
set_option maxRecDepth 20000 in
theorem gX6_init_X3_init : GoodIn wsX6_init (wsX3_init) := ggX6_init_X3_init
set_option maxRecDepth 20000 in
theorem ggX6_init_X4_init : GoodIn wsX6_init wsX4_init := goodIn_r _ [67, 68, 2, 3, 12, 69, 70, 71, 72, 73, 105, 106, 107, 108] (by decide +kernel) (by decide +kernel)
set_option maxRecDepth 20000 in
theorem gX6_init_X4_init : GoodIn wsX6_init (wsX4_init) := ggX6_init_X4_init
set_option maxRecDepth 20000 in
theorem ggX6_init_X1_init : GoodIn wsX6_init wsX1_init := goodIn_r _ [76, 77, 2, 3, 78, 22, 23, 79, 80, 81, 82, 83, 66, 67, 68, 12, 69, 70, 71, 72, 73, 105, 106, 107, 108, 109, 110, 111, 112] (by decide +kernel) (by decide +kernel)
set_option maxRecDepth 20000 in
theorem gX6_init_X1_init : GoodIn wsX6_init (wsX1_init) := ggX6_init_X1_init
theorem dX6_init_0 : decode cX6_init 0 = .ok (.aload_n 0, 1) := by decide +kernel
theorem dX6_init_1 : decode cX6_init 1 = .ok (.invokespecial 3, 3) := by decide +kernel
theorem dX6_init_4 : decode cX6_init 4 = .ok (.aload_n 0, 1) := by decide +kernel
theorem dX6_init_5 : decode cX6_init 5 = .ok (.new 9, 3) := by decide +kernel
theorem dX6_init_8 : decode cX6_init 8 = .ok (.dup, 1) := by decide +kernel
theorem dX6_init_9 : decode cX6_init 9 = .ok (.invokespecial 11, 3) := by decide +kernel
theorem dX6_init_12 : decode cX6_init 12 = .ok (.putfield 12, 3) := by decide +kernel
theorem dX6_init_15 : decode cX6_init 15 = .ok (.aload_n 0, 1) := by decide +kernel
theorem dX6_init_16 : decode cX6_init 16 = .ok (.new 16, 3) := by decide +kernel
theorem dX6_init_19 : decode cX6_init 19 = .ok (.dup, 1) := by decide +kernel
theorem dX6_init_20 : decode cX6_init 20 = .ok (.invokespecial 18, 3) := by decide +kernel
theorem dX6_init_23 : decode cX6_init 23 = .ok (.putfield 19, 3) := by decide +kernel
theorem dX6_init_26 : decode cX6_init 26 = .ok (.aload_n 0, 1) := by decide +kernel
theorem dX6_init_27 : decode cX6_init 27 = .ok (.sipush 26181, 3) := by decide +kernel
theorem dX6_init_30 : decode cX6_init 30 = .ok (.newarray .int, 2) := by decide +kernel
theorem dX6_init_32 : decode cX6_init 32 = .ok (.putfield 23, 3) := by decide +kernel
theorem dX6_init_35 : decode cX6_init 35 = .ok (.aload_n 0, 1) := by decide +kernel
theorem dX6_init_36 : decode cX6_init 36 = .ok (.iconst 0, 1) := by decide +kernel
theorem dX6_init_37 : decode cX6_init 37 = .ok (.putfield 27, 3) := by decide +kernel
theorem dX6_init_40 : decode cX6_init 40 = .ok (.aload_n 0, 1) := by decide +kernel
theorem dX6_init_41 : decode cX6_init 41 = .ok (.new 31, 3) := by decide +kernel
theorem dX6_init_44 : decode cX6_init 44 = .ok (.dup, 1) := by decide +kernel
theorem dX6_init_45 : decode cX6_init 45 = .ok (.invokespecial 33, 3) := by decide +kernel
theorem dX6_init_48 : decode cX6_init 48 = .ok (.putfield 34, 3) := by decide +kernel
theorem dX6_init_51 : decode cX6_init 51 = .ok (.aload_n 0, 1) := by decide +kernel
theorem dX6_init_52 : decode cX6_init 52 = .ok (.aload_n 0, 1) := by decide +kernel
theorem dX6_init_53 : decode cX6_init 53 = .ok (.getfield 34, 3) := by decide +kernel
theorem dX6_init_56 : decode cX6_init 56 = .ok (.getfield 38, 3) := by decide +kernel
theorem dX6_init_59 : decode cX6_init 59 = .ok (.putfield 42, 3) := by decide +kernel
theorem dX6_init_62 : decode cX6_init 62 = .ok (.aload_n 0, 1) := by decide +kernel
theorem dX6_init_63 : decode cX6_init 63 = .ok (.new 43, 3) := by decide +kernel
theorem dX6_init_66 : decode cX6_init 66 = .ok (.dup, 1) := by decide +kernel
theorem dX6_init_67 : decode cX6_init 67 = .ok (.invokespecial 45, 3) := by decide +kernel
theorem dX6_init_70 : decode cX6_init 70 = .ok (.putfield 46, 3) := by decide +kernel
theorem dX6_init_73 : decode cX6_init 73 = .ok (.aload_n 0, 1) := by decide +kernel
theorem dX6_init_74 : decode cX6_init 74 = .ok (.new 43, 3) := by decide +kernel
theorem dX6_init_77 : decode cX6_init 77 = .ok (.dup, 1) := by decide +kernel
theorem dX6_init_78 : decode cX6_init 78 = .ok (.invokespecial 45, 3) := by decide +kernel
theorem dX6_init_81 : decode cX6_init 81 = .ok (.putfield 50, 3) := by decide +kernel
theorem dX6_init_84 : decode cX6_init 84 = .ok (.aload_n 0, 1) := by decide +kernel
theorem dX6_init_85 : decode cX6_init 85 = .ok (.new 53, 3) := by decide +kernel
theorem dX6_init_88 : decode cX6_init 88 = .ok (.dup, 1) := by decide +kernel
theorem dX6_init_89 : decode cX6_init 89 = .ok (.invokespecial 55, 3) := by decide +kernel
theorem dX6_init_92 : decode cX6_init 92 = .ok (.putfield 56, 3) := by decide +kernel
theorem dX6_init_95 : decode cX6_init 95 = .ok (.return_, 1) := by decide +kernel
set_option maxRecDepth 20000 in
theorem ggX6_log_X6_isRose : GoodIn wsX6_log wsX6_isRose := goodIn_r _ [6, 7, 8, 5, 9] (by decide +kernel) (by decide +kernel)
set_option maxRecDepth 20000 in
theorem gX6_log_X6_isRose : GoodIn wsX6_log (va_wsS RX6 60 yX6_isRose wsX6_isRose) := goodIn_app (goodIn_of _ (by decide +kernel)) ggX6_log_X6_isRose
set_option maxRecDepth 20000 in
theorem ggX6_log_X6_isDirection : GoodIn wsX6_log wsX6_isDirection := goodIn_r _ [12, 7, 8, 5, 9] (by decide +kernel) (by decide +kernel)
set_option maxRecDepth 20000 in
theorem gX6_log_X6_isDirection : GoodIn wsX6_log (va_wsS RX6 64 yX6_isDirection wsX6_isDirection) := goodIn_app (goodIn_of _ (by decide +kernel)) ggX6_log_X6_isDirection
set_option maxRecDepth 20000 in
theorem ggX6_log_X6_isBetween : GoodIn wsX6_log wsX6_isBetween := goodIn_r _ [9] (by decide +kernel) (by decide +kernel)
set_option maxRecDepth 20000 in
theorem gX6_log_X6_isBetween : GoodIn wsX6_log (va_wsS RX6 68 yX6_isBetween wsX6_isBetween) := goodIn_app (goodIn_of _ (by decide +kernel)) ggX6_log_X6_isBetween
set_option maxRecDepth 20000 in
theorem ggX6_log_X6_roseOf : GoodIn wsX6_log wsX6_roseOf := goodIn_r _ [15] (by decide +kernel) (by decide +kernel)
set_option maxRecDepth 20000 in
theorem gX6_log_X6_roseOf : GoodIn wsX6_log (va_wsS RX6 72 yX6_roseOf wsX6_roseOf) := goodIn_app (goodIn_of _ (by decide +kernel)) ggX6_log_X6_roseOf
set_option maxRecDepth 20000 in
theorem ggX6_log_X0_hasRoom : GoodIn wsX6_log wsX0_hasRoom := goodIn_r _ [20, 21, 22, 23, 19, 24, 25, 26, 27, 28, 29, 30, 31, 32, 33, 71, 72] (by decide +kernel) (by decide +kernel)
set_option maxRecDepth 20000 in
theorem gX6_log_X0_hasRoom : GoodIn wsX6_log (wsV RX6 76 RX0 yX0_hasRoom wsX0_hasRoom) := goodIn_app (goodIn_of _ (by decide +kernel)) ggX6_log_X0_hasRoom
set_option maxRecDepth 20000 in
theorem ggX6_log_X2_remember : GoodIn wsX6_log wsX2_remember := goodIn_r _ [38, 39, 40, 41, 42, 43, 44, 37, 45, 46, 47, 48, 19, 49, 29, 50, 51, 52, 53, 73, 74, 75, 71, 72] (by decide +kernel) (by decide +kernel)
set_option maxRecDepth 20000 in
theorem gX6_log_X2_remember : GoodIn wsX6_log (wsV RX6 79 RX2 yX2_remember wsX2_remember) := goodIn_app (goodIn_of _ (by decide +kernel)) ggX6_log_X2_remember
set_option maxRecDepth 20000 in
theorem ggX6_log_X0_addWindy : GoodIn wsX6_log wsX0_addWindy := goodIn_r _ [57, 29, 58, 59, 19, 60, 71, 72] (by decide +kernel) (by decide +kernel)
set_option maxRecDepth 20000 in
theorem gX6_log_X0_addWindy : GoodIn wsX6_log (wsV RX6 83 RX0 yX0_addWindy wsX0_addWindy) := goodIn_app (goodIn_of _ (by decide +kernel)) ggX6_log_X0_addWindy
set_option maxRecDepth 20000 in
theorem ggX6_log_X0_allHours : GoodIn wsX6_log wsX0_allHours := goodIn_r _ [24, 25, 26, 27, 19, 28, 29, 30, 31, 32, 33, 71, 72] (by decide +kernel) (by decide +kernel)
set_option maxRecDepth 20000 in
theorem gX6_log_X0_allHours : GoodIn wsX6_log (wsV RX6 87 RX0 yX0_allHours wsX0_allHours) := goodIn_app (goodIn_of _ (by decide +kernel)) ggX6_log_X0_allHours
theorem dX6_log_0 : decode cX6_log 0 = .ok (.iload_n 1, 1) := by decide +kernel
theorem dX6_log_1 : decode cX6_log 1 = .ok (.iload_n 2, 1) := by decide +kernel
theorem dX6_log_2 : decode cX6_log 2 = .ok (.invokestatic 60, 3) := by decide +kernel
theorem dX6_log_5 : decode cX6_log 5 = .ok (.ifCond .eq 10, 3) := by decide +kernel
theorem dX6_log_8 : decode cX6_log 8 = .ok (.iload_n 3, 1) := by decide +kernel
theorem dX6_log_9 : decode cX6_log 9 = .ok (.invokestatic 64, 3) := by decide +kernel
theorem dX6_log_12 : decode cX6_log 12 = .ok (.ifCond .ne 5, 3) := by decide +kernel
theorem dX6_log_15 : decode cX6_log 15 = .ok (.iconst (-1), 1) := by decide +kernel
theorem dX6_log_16 : decode cX6_log 16 = .ok (.ireturn, 1) := by decide +kernel
theorem dX6_log_17 : decode cX6_log 17 = .ok (.iload 4, 2) := by decide +kernel
theorem dX6_log_19 : decode cX6_log 19 = .ok (.iconst 1, 1) := by decide +kernel
theorem dX6_log_20 : decode cX6_log 20 = .ok (.bipush 99, 2) := by decide +kernel
theorem dX6_log_22 : decode cX6_log 22 = .ok (.invokestatic 68, 3) := by decide +kernel
theorem dX6_log_25 : decode cX6_log 25 = .ok (.ifCond .eq 14, 3) := by decide +kernel
theorem dX6_log_28 : decode cX6_log 28 = .ok (.iload 5, 2) := by decide +kernel
theorem dX6_log_30 : decode cX6_log 30 = .ok (.iconst 1, 1) := by decide +kernel
theorem dX6_log_31 : decode cX6_log 31 = .ok (.bipush 99, 2) := by decide +kernel
theorem dX6_log_33 : decode cX6_log 33 = .ok (.invokestatic 68, 3) := by decide +kernel
theorem dX6_log_36 : decode cX6_log 36 = .ok (.ifCond .ne 6, 3) := by decide +kernel
theorem dX6_log_39 : decode cX6_log 39 = .ok (.bipush (-2), 2) := by decide +kernel
theorem dX6_log_41 : decode cX6_log 41 = .ok (.ireturn, 1) := by decide +kernel
theorem dX6_log_42 : decode cX6_log 42 = .ok (.iload_n 1, 1) := by decide +kernel
theorem dX6_log_43 : decode cX6_log 43 = .ok (.iload_n 2, 1) := by decide +kernel
theorem dX6_log_44 : decode cX6_log 44 = .ok (.invokestatic 72, 3) := by decide +kernel
theorem dX6_log_47 : decode cX6_log 47 = .ok (.istore 6, 2) := by decide +kernel
theorem dX6_log_49 : decode cX6_log 49 = .ok (.aload_n 0, 1) := by decide +kernel
theorem dX6_log_50 : decode cX6_log 50 = .ok (.getfield 12, 3) := by decide +kernel
theorem dX6_log_53 : decode cX6_log 53 = .ok (.iload 6, 2) := by decide +kernel
theorem dX6_log_55 : decode cX6_log 55 = .ok (.iload 5, 2) := by decide +kernel
theorem dX6_log_57 : decode cX6_log 57 = .ok (.invokevirtual 76, 3) := by decide +kernel
theorem dX6_log_60 : decode cX6_log 60 = .ok (.ifCond .ne 6, 3) := by decide +kernel
theorem dX6_log_63 : decode cX6_log 63 = .ok (.bipush (-3), 2) := by decide +kernel
theorem dX6_log_65 : decode cX6_log 65 = .ok (.ireturn, 1) := by decide +kernel
theorem dX6_log_66 : decode cX6_log 66 = .ok (.aload_n 0, 1) := by decide +kernel
theorem dX6_log_67 : decode cX6_log 67 = .ok (.getfield 19, 3) := by decide +kernel
theorem dX6_log_70 : decode cX6_log 70 = .ok (.aload_n 0, 1) := by decide +kernel
theorem dX6_log_71 : decode cX6_log 71 = .ok (.getfield 12, 3) := by decide +kernel
theorem dX6_log_74 : decode cX6_log 74 = .ok (.invokevirtual 79, 3) := by decide +kernel
theorem dX6_log_77 : decode cX6_log 77 = .ok (.aload_n 0, 1) := by decide +kernel
theorem dX6_log_78 : decode cX6_log 78 = .ok (.getfield 12, 3) := by decide +kernel
theorem dX6_log_81 : decode cX6_log 81 = .ok (.iload 6, 2) := by decide +kernel
theorem dX6_log_83 : decode cX6_log 83 = .ok (.iload_n 3, 1) := by decide +kernel
theorem dX6_log_84 : decode cX6_log 84 = .ok (.iload 4, 2) := by decide +kernel
theorem dX6_log_86 : decode cX6_log 86 = .ok (.iload 5, 2) := by decide +kernel
theorem dX6_log_88 : decode cX6_log 88 = .ok (.invokevirtual 83, 3) := by decide +kernel
theorem dX6_log_91 : decode cX6_log 91 = .ok (.aload_n 0, 1) := by decide +kernel
theorem dX6_log_92 : decode cX6_log 92 = .ok (.getfield 12, 3) := by decide +kernel
theorem dX6_log_95 : decode cX6_log 95 = .ok (.iload 6, 2) := by decide +kernel
theorem dX6_log_97 : decode cX6_log 97 = .ok (.invokevirtual 87, 3) := by decide +kernel
theorem dX6_log_100 : decode cX6_log 100 = .ok (.ireturn, 1) := by decide +kernel
set_option maxRecDepth 20000 in
theorem ggX6_calm_X6_isRose : GoodIn wsX6_calm wsX6_isRose := goodIn_r _ [6, 7, 8, 5, 9] (by decide +kernel) (by decide +kernel)
set_option maxRecDepth 20000 in
theorem gX6_calm_X6_isRose : GoodIn wsX6_calm (va_wsS RX6 60 yX6_isRose wsX6_isRose) := goodIn_app (goodIn_of _ (by decide +kernel)) ggX6_calm_X6_isRose
set_option maxRecDepth 20000 in
theorem ggX6_calm_X6_isBetween : GoodIn wsX6_calm wsX6_isBetween := goodIn_r _ [9] (by decide +kernel) (by decide +kernel)
set_option maxRecDepth 20000 in
theorem gX6_calm_X6_isBetween : GoodIn wsX6_calm (va_wsS RX6 68 yX6_isBetween wsX6_isBetween) := goodIn_app (goodIn_of _ (by decide +kernel)) ggX6_calm_X6_isBetween
set_option maxRecDepth 20000 in
theorem ggX6_calm_X6_roseOf : GoodIn wsX6_calm wsX6_roseOf := goodIn_r _ [12] (by decide +kernel) (by decide +kernel)
set_option maxRecDepth 20000 in
theorem gX6_calm_X6_roseOf : GoodIn wsX6_calm (va_wsS RX6 72 yX6_roseOf wsX6_roseOf) := goodIn_app (goodIn_of _ (by decide +kernel)) ggX6_calm_X6_roseOf
set_option maxRecDepth 20000 in
theorem ggX6_calm_X0_hasRoom : GoodIn wsX6_calm wsX0_hasRoom := goodIn_r _ [17, 18, 19, 20, 16, 21, 22, 23, 24, 25, 26, 27, 28, 29, 30, 65, 66] (by decide +kernel) (by decide +kernel)
set_option maxRecDepth 20000 in
theorem gX6_calm_X0_hasRoom : GoodIn wsX6_calm (wsV RX6 76 RX0 yX0_hasRoom wsX0_hasRoom) := goodIn_app (goodIn_of _ (by decide +kernel)) ggX6_calm_X0_hasRoom
set_option maxRecDepth 20000 in
theorem ggX6_calm_X2_remember : GoodIn wsX6_calm wsX2_remember := goodIn_r _ [35, 36, 37, 38, 39, 40, 41, 34, 42, 43, 44, 45, 16, 46, 26, 47, 48, 49, 50, 67, 68, 69, 65, 66] (by decide +kernel) (by decide +kernel)
set_option maxRecDepth 20000 in
theorem gX6_calm_X2_remember : GoodIn wsX6_calm (wsV RX6 79 RX2 yX2_remember wsX2_remember) := goodIn_app (goodIn_of _ (by decide +kernel)) ggX6_calm_X2_remember
set_option maxRecDepth 20000 in
theorem ggX6_calm_X0_addCalm : GoodIn wsX6_calm wsX0_addCalm := goodIn_r _ [54, 26, 65, 66] (by decide +kernel) (by decide +kernel)
set_option maxRecDepth 20000 in
theorem gX6_calm_X0_addCalm : GoodIn wsX6_calm (wsV RX6 91 RX0 yX0_addCalm wsX0_addCalm) := goodIn_app (goodIn_of _ (by decide +kernel)) ggX6_calm_X0_addCalm
set_option maxRecDepth 20000 in
theorem ggX6_calm_X0_allHours : GoodIn wsX6_calm wsX0_allHours := goodIn_r _ [21, 22, 23, 24, 16, 25, 26, 27, 28, 29, 30, 65, 66] (by decide +kernel) (by decide +kernel)
set_option maxRecDepth 20000 in
theorem gX6_calm_X0_allHours : GoodIn wsX6_calm (wsV RX6 87 RX0 yX0_allHours wsX0_allHours) := goodIn_app (goodIn_of _ (by decide +kernel)) ggX6_calm_X0_allHours
theorem dX6_calm_0 : decode cX6_calm 0 = .ok (.iload_n 1, 1) := by decide +kernel
theorem dX6_calm_1 : decode cX6_calm 1 = .ok (.iload_n 2, 1) := by decide +kernel
theorem dX6_calm_2 : decode cX6_calm 2 = .ok (.invokestatic 60, 3) := by decide +kernel
theorem dX6_calm_5 : decode cX6_calm 5 = .ok (.ifCond .ne 5, 3) := by decide +kernel
theorem dX6_calm_8 : decode cX6_calm 8 = .ok (.iconst (-1), 1) := by decide +kernel
theorem dX6_calm_9 : decode cX6_calm 9 = .ok (.ireturn, 1) := by decide +kernel
theorem dX6_calm_10 : decode cX6_calm 10 = .ok (.iload_n 3, 1) := by decide +kernel
theorem dX6_calm_11 : decode cX6_calm 11 = .ok (.iconst 1, 1) := by decide +kernel
theorem dX6_calm_12 : decode cX6_calm 12 = .ok (.bipush 99, 2) := by decide +kernel
theorem dX6_calm_14 : decode cX6_calm 14 = .ok (.invokestatic 68, 3) := by decide +kernel
theorem dX6_calm_17 : decode cX6_calm 17 = .ok (.ifCond .ne 6, 3) := by decide +kernel
theorem dX6_calm_20 : decode cX6_calm 20 = .ok (.bipush (-2), 2) := by decide +kernel
theorem dX6_calm_22 : decode cX6_calm 22 = .ok (.ireturn, 1) := by decide +kernel
theorem dX6_calm_23 : decode cX6_calm 23 = .ok (.iload_n 1, 1) := by decide +kernel
theorem dX6_calm_24 : decode cX6_calm 24 = .ok (.iload_n 2, 1) := by decide +kernel
theorem dX6_calm_25 : decode cX6_calm 25 = .ok (.invokestatic 72, 3) := by decide +kernel
theorem dX6_calm_28 : decode cX6_calm 28 = .ok (.istore 4, 2) := by decide +kernel
theorem dX6_calm_30 : decode cX6_calm 30 = .ok (.aload_n 0, 1) := by decide +kernel
theorem dX6_calm_31 : decode cX6_calm 31 = .ok (.getfield 12, 3) := by decide +kernel
theorem dX6_calm_34 : decode cX6_calm 34 = .ok (.iload 4, 2) := by decide +kernel
theorem dX6_calm_36 : decode cX6_calm 36 = .ok (.iload_n 3, 1) := by decide +kernel
theorem dX6_calm_37 : decode cX6_calm 37 = .ok (.invokevirtual 76, 3) := by decide +kernel
theorem dX6_calm_40 : decode cX6_calm 40 = .ok (.ifCond .ne 6, 3) := by decide +kernel
theorem dX6_calm_43 : decode cX6_calm 43 = .ok (.bipush (-3), 2) := by decide +kernel
theorem dX6_calm_45 : decode cX6_calm 45 = .ok (.ireturn, 1) := by decide +kernel
theorem dX6_calm_46 : decode cX6_calm 46 = .ok (.aload_n 0, 1) := by decide +kernel
theorem dX6_calm_47 : decode cX6_calm 47 = .ok (.getfield 19, 3) := by decide +kernel
theorem dX6_calm_50 : decode cX6_calm 50 = .ok (.aload_n 0, 1) := by decide +kernel
theorem dX6_calm_51 : decode cX6_calm 51 = .ok (.getfield 12, 3) := by decide +kernel
theorem dX6_calm_54 : decode cX6_calm 54 = .ok (.invokevirtual 79, 3) := by decide +kernel
theorem dX6_calm_57 : decode cX6_calm 57 = .ok (.aload_n 0, 1) := by decide +kernel
theorem dX6_calm_58 : decode cX6_calm 58 = .ok (.getfield 12, 3) := by decide +kernel
theorem dX6_calm_61 : decode cX6_calm 61 = .ok (.iload 4, 2) := by decide +kernel
theorem dX6_calm_63 : decode cX6_calm 63 = .ok (.iload_n 3, 1) := by decide +kernel
theorem dX6_calm_64 : decode cX6_calm 64 = .ok (.invokevirtual 91, 3) := by decide +kernel
theorem dX6_calm_67 : decode cX6_calm 67 = .ok (.aload_n 0, 1) := by decide +kernel
theorem dX6_calm_68 : decode cX6_calm 68 = .ok (.getfield 12, 3) := by decide +kernel
theorem dX6_calm_71 : decode cX6_calm 71 = .ok (.iload 4, 2) := by decide +kernel
theorem dX6_calm_73 : decode cX6_calm 73 = .ok (.invokevirtual 87, 3) := by decide +kernel
theorem dX6_calm_76 : decode cX6_calm 76 = .ok (.ireturn, 1) := by decide +kernel
set_option maxRecDepth 20000 in
theorem ggX6_strike_X6_isRose : GoodIn wsX6_strike wsX6_isRose := goodIn_r _ [6, 7, 8, 5, 9] (by decide +kernel) (by decide +kernel)
set_option maxRecDepth 20000 in
theorem gX6_strike_X6_isRose : GoodIn wsX6_strike (va_wsS RX6 60 yX6_isRose wsX6_isRose) := goodIn_app (goodIn_of _ (by decide +kernel)) ggX6_strike_X6_isRose
set_option maxRecDepth 20000 in
theorem ggX6_strike_X6_isDirection : GoodIn wsX6_strike wsX6_isDirection := goodIn_r _ [12, 7, 8, 5, 9] (by decide +kernel) (by decide +kernel)
set_option maxRecDepth 20000 in
theorem gX6_strike_X6_isDirection : GoodIn wsX6_strike (va_wsS RX6 64 yX6_isDirection wsX6_isDirection) := goodIn_app (goodIn_of _ (by decide +kernel)) ggX6_strike_X6_isDirection
set_option maxRecDepth 20000 in
theorem ggX6_strike_X6_isBetween : GoodIn wsX6_strike wsX6_isBetween := goodIn_r _ [9] (by decide +kernel) (by decide +kernel)
set_option maxRecDepth 20000 in
theorem gX6_strike_X6_isBetween : GoodIn wsX6_strike (va_wsS RX6 68 yX6_isBetween wsX6_isBetween) := goodIn_app (goodIn_of _ (by decide +kernel)) ggX6_strike_X6_isBetween
set_option maxRecDepth 20000 in
theorem ggX6_strike_X6_roseOf : GoodIn wsX6_strike wsX6_roseOf := goodIn_r _ [15] (by decide +kernel) (by decide +kernel)
set_option maxRecDepth 20000 in
theorem gX6_strike_X6_roseOf : GoodIn wsX6_strike (va_wsS RX6 72 yX6_roseOf wsX6_roseOf) := goodIn_app (goodIn_of _ (by decide +kernel)) ggX6_strike_X6_roseOf
set_option maxRecDepth 20000 in
theorem ggX6_strike_X0_hoursAt : GoodIn wsX6_strike wsX0_hoursAt := goodIn_r _ [20, 21, 22, 23, 19, 24, 58, 59] (by decide +kernel) (by decide +kernel)
set_option maxRecDepth 20000 in
theorem gX6_strike_X0_hoursAt : GoodIn wsX6_strike (wsV RX6 95 RX0 yX0_hoursAt wsX0_hoursAt) := goodIn_app (goodIn_of _ (by decide +kernel)) ggX6_strike_X0_hoursAt
set_option maxRecDepth 20000 in
theorem ggX6_strike_X2_remember : GoodIn wsX6_strike wsX2_remember := goodIn_r _ [29, 30, 31, 32, 33, 34, 35, 28, 36, 37, 38, 39, 19, 40, 21, 41, 42, 43, 44, 60, 61, 62, 58, 59] (by decide +kernel) (by decide +kernel)
set_option maxRecDepth 20000 in
theorem gX6_strike_X2_remember : GoodIn wsX6_strike (wsV RX6 79 RX2 yX2_remember wsX2_remember) := goodIn_app (goodIn_of _ (by decide +kernel)) ggX6_strike_X2_remember
set_option maxRecDepth 20000 in
theorem ggX6_strike_X0_addWindy : GoodIn wsX6_strike wsX0_addWindy := goodIn_r _ [48, 21, 22, 23, 19, 24, 58, 59] (by decide +kernel) (by decide +kernel)
set_option maxRecDepth 20000 in
theorem gX6_strike_X0_addWindy : GoodIn wsX6_strike (wsV RX6 83 RX0 yX0_addWindy wsX0_addWindy) := goodIn_app (goodIn_of _ (by decide +kernel)) ggX6_strike_X0_addWindy
theorem dX6_strike_0 : decode cX6_strike 0 = .ok (.iload_n 1, 1) := by decide +kernel
theorem dX6_strike_1 : decode cX6_strike 1 = .ok (.iload_n 2, 1) := by decide +kernel
theorem dX6_strike_2 : decode cX6_strike 2 = .ok (.invokestatic 60, 3) := by decide +kernel
theorem dX6_strike_5 : decode cX6_strike 5 = .ok (.ifCond .eq 10, 3) := by decide +kernel
theorem dX6_strike_8 : decode cX6_strike 8 = .ok (.iload_n 3, 1) := by decide +kernel
theorem dX6_strike_9 : decode cX6_strike 9 = .ok (.invokestatic 64, 3) := by decide +kernel
theorem dX6_strike_12 : decode cX6_strike 12 = .ok (.ifCond .ne 5, 3) := by decide +kernel
theorem dX6_strike_15 : decode cX6_strike 15 = .ok (.iconst (-1), 1) := by decide +kernel
theorem dX6_strike_16 : decode cX6_strike 16 = .ok (.ireturn, 1) := by decide +kernel
theorem dX6_strike_17 : decode cX6_strike 17 = .ok (.iload 4, 2) := by decide +kernel
theorem dX6_strike_19 : decode cX6_strike 19 = .ok (.iconst 1, 1) := by decide +kernel
theorem dX6_strike_20 : decode cX6_strike 20 = .ok (.bipush 99, 2) := by decide +kernel
theorem dX6_strike_22 : decode cX6_strike 22 = .ok (.invokestatic 68, 3) := by decide +kernel
theorem dX6_strike_25 : decode cX6_strike 25 = .ok (.ifCond .ne 6, 3) := by decide +kernel
theorem dX6_strike_28 : decode cX6_strike 28 = .ok (.bipush (-2), 2) := by decide +kernel
theorem dX6_strike_30 : decode cX6_strike 30 = .ok (.ireturn, 1) := by decide +kernel
theorem dX6_strike_31 : decode cX6_strike 31 = .ok (.iload_n 1, 1) := by decide +kernel
theorem dX6_strike_32 : decode cX6_strike 32 = .ok (.iload_n 2, 1) := by decide +kernel
theorem dX6_strike_33 : decode cX6_strike 33 = .ok (.invokestatic 72, 3) := by decide +kernel
theorem dX6_strike_36 : decode cX6_strike 36 = .ok (.istore 5, 2) := by decide +kernel
theorem dX6_strike_38 : decode cX6_strike 38 = .ok (.aload_n 0, 1) := by decide +kernel
theorem dX6_strike_39 : decode cX6_strike 39 = .ok (.getfield 12, 3) := by decide +kernel
theorem dX6_strike_42 : decode cX6_strike 42 = .ok (.iload 5, 2) := by decide +kernel
theorem dX6_strike_44 : decode cX6_strike 44 = .ok (.iload_n 3, 1) := by decide +kernel
theorem dX6_strike_45 : decode cX6_strike 45 = .ok (.iload 4, 2) := by decide +kernel
theorem dX6_strike_47 : decode cX6_strike 47 = .ok (.invokevirtual 95, 3) := by decide +kernel
theorem dX6_strike_50 : decode cX6_strike 50 = .ok (.istore 6, 2) := by decide +kernel
theorem dX6_strike_52 : decode cX6_strike 52 = .ok (.iload 6, 2) := by decide +kernel
theorem dX6_strike_54 : decode cX6_strike 54 = .ok (.ifCond .ne 6, 3) := by decide +kernel
theorem dX6_strike_57 : decode cX6_strike 57 = .ok (.bipush (-5), 2) := by decide +kernel
theorem dX6_strike_59 : decode cX6_strike 59 = .ok (.ireturn, 1) := by decide +kernel
theorem dX6_strike_60 : decode cX6_strike 60 = .ok (.aload_n 0, 1) := by decide +kernel
theorem dX6_strike_61 : decode cX6_strike 61 = .ok (.getfield 19, 3) := by decide +kernel
theorem dX6_strike_64 : decode cX6_strike 64 = .ok (.aload_n 0, 1) := by decide +kernel
theorem dX6_strike_65 : decode cX6_strike 65 = .ok (.getfield 12, 3) := by decide +kernel
theorem dX6_strike_68 : decode cX6_strike 68 = .ok (.invokevirtual 79, 3) := by decide +kernel
theorem dX6_strike_71 : decode cX6_strike 71 = .ok (.aload_n 0, 1) := by decide +kernel
theorem dX6_strike_72 : decode cX6_strike 72 = .ok (.getfield 12, 3) := by decide +kernel
theorem dX6_strike_75 : decode cX6_strike 75 = .ok (.iload 5, 2) := by decide +kernel
theorem dX6_strike_77 : decode cX6_strike 77 = .ok (.iload_n 3, 1) := by decide +kernel
theorem dX6_strike_78 : decode cX6_strike 78 = .ok (.iload 4, 2) := by decide +kernel
theorem dX6_strike_80 : decode cX6_strike 80 = .ok (.iload 6, 2) := by decide +kernel
theorem dX6_strike_82 : decode cX6_strike 82 = .ok (.ineg, 1) := by decide +kernel
theorem dX6_strike_83 : decode cX6_strike 83 = .ok (.invokevirtual 83, 3) := by decide +kernel
theorem dX6_strike_86 : decode cX6_strike 86 = .ok (.iload 6, 2) := by decide +kernel
theorem dX6_strike_88 : decode cX6_strike 88 = .ok (.ireturn, 1) := by decide +kernel
set_option maxRecDepth 20000 in
theorem ggX6_turn_X6_isRose : GoodIn wsX6_turn wsX6_isRose := goodIn_r _ [6, 7, 8, 5, 9] (by decide +kernel) (by decide +kernel)
set_option maxRecDepth 20000 in
theorem gX6_turn_X6_isRose : GoodIn wsX6_turn (va_wsS RX6 60 yX6_isRose wsX6_isRose) := goodIn_app (goodIn_of _ (by decide +kernel)) ggX6_turn_X6_isRose
set_option maxRecDepth 20000 in
theorem ggX6_turn_X6_isBetween : GoodIn wsX6_turn wsX6_isBetween := goodIn_r _ [9] (by decide +kernel) (by decide +kernel)
set_option maxRecDepth 20000 in
theorem gX6_turn_X6_isBetween : GoodIn wsX6_turn (va_wsS RX6 68 yX6_isBetween wsX6_isBetween) := goodIn_app (goodIn_of _ (by decide +kernel)) ggX6_turn_X6_isBetween
set_option maxRecDepth 20000 in
theorem ggX6_turn_X6_roseOf : GoodIn wsX6_turn wsX6_roseOf := goodIn_r _ [12] (by decide +kernel) (by decide +kernel)
set_option maxRecDepth 20000 in
theorem gX6_turn_X6_roseOf : GoodIn wsX6_turn (va_wsS RX6 72 yX6_roseOf wsX6_roseOf) := goodIn_app (goodIn_of _ (by decide +kernel)) ggX6_turn_X6_roseOf
set_option maxRecDepth 20000 in
theorem ggX6_turn_X0_windyHours : GoodIn wsX6_turn wsX0_windyHours := goodIn_r _ [17, 18, 53, 54] (by decide +kernel) (by decide +kernel)
set_option maxRecDepth 20000 in
theorem gX6_turn_X0_windyHours : GoodIn wsX6_turn (wsV RX6 99 RX0 yX0_windyHours wsX0_windyHours) := goodIn_app (goodIn_of _ (by decide +kernel)) ggX6_turn_X0_windyHours
set_option maxRecDepth 20000 in
theorem ggX6_turn_X2_remember : GoodIn wsX6_turn wsX2_remember := goodIn_r _ [23, 24, 25, 26, 27, 28, 29, 22, 30, 31, 32, 33, 16, 34, 18, 35, 36, 37, 38, 55, 56, 57, 53, 54] (by decide +kernel) (by decide +kernel)
set_option maxRecDepth 20000 in
theorem gX6_turn_X2_remember : GoodIn wsX6_turn (wsV RX6 79 RX2 yX2_remember wsX2_remember) := goodIn_app (goodIn_of _ (by decide +kernel)) ggX6_turn_X2_remember
set_option maxRecDepth 20000 in
theorem ggX6_turn_X0_turnLog : GoodIn wsX6_turn wsX0_turnLog := goodIn_r _ [42, 18, 43, 35, 36, 37, 38, 53, 54] (by decide +kernel) (by decide +kernel)
set_option maxRecDepth 20000 in
theorem gX6_turn_X0_turnLog : GoodIn wsX6_turn (wsV RX6 102 RX0 yX0_turnLog wsX0_turnLog) := goodIn_app (goodIn_of _ (by decide +kernel)) ggX6_turn_X0_turnLog
theorem dX6_turn_0 : decode cX6_turn 0 = .ok (.iload_n 1, 1) := by decide +kernel
theorem dX6_turn_1 : decode cX6_turn 1 = .ok (.iload_n 2, 1) := by decide +kernel
theorem dX6_turn_2 : decode cX6_turn 2 = .ok (.invokestatic 60, 3) := by decide +kernel
theorem dX6_turn_5 : decode cX6_turn 5 = .ok (.ifCond .ne 5, 3) := by decide +kernel
theorem dX6_turn_8 : decode cX6_turn 8 = .ok (.iconst (-1), 1) := by decide +kernel
theorem dX6_turn_9 : decode cX6_turn 9 = .ok (.ireturn, 1) := by decide +kernel
theorem dX6_turn_10 : decode cX6_turn 10 = .ok (.iload_n 3, 1) := by decide +kernel
theorem dX6_turn_11 : decode cX6_turn 11 = .ok (.iconst 1, 1) := by decide +kernel
theorem dX6_turn_12 : decode cX6_turn 12 = .ok (.bipush 15, 2) := by decide +kernel
theorem dX6_turn_14 : decode cX6_turn 14 = .ok (.invokestatic 68, 3) := by decide +kernel
theorem dX6_turn_17 : decode cX6_turn 17 = .ok (.ifCond .ne 6, 3) := by decide +kernel
theorem dX6_turn_20 : decode cX6_turn 20 = .ok (.bipush (-2), 2) := by decide +kernel
theorem dX6_turn_22 : decode cX6_turn 22 = .ok (.ireturn, 1) := by decide +kernel
theorem dX6_turn_23 : decode cX6_turn 23 = .ok (.iload_n 1, 1) := by decide +kernel
theorem dX6_turn_24 : decode cX6_turn 24 = .ok (.iload_n 2, 1) := by decide +kernel
theorem dX6_turn_25 : decode cX6_turn 25 = .ok (.invokestatic 72, 3) := by decide +kernel
theorem dX6_turn_28 : decode cX6_turn 28 = .ok (.istore 4, 2) := by decide +kernel
theorem dX6_turn_30 : decode cX6_turn 30 = .ok (.aload_n 0, 1) := by decide +kernel
theorem dX6_turn_31 : decode cX6_turn 31 = .ok (.getfield 12, 3) := by decide +kernel
theorem dX6_turn_34 : decode cX6_turn 34 = .ok (.iload 4, 2) := by decide +kernel
theorem dX6_turn_36 : decode cX6_turn 36 = .ok (.invokevirtual 99, 3) := by decide +kernel
theorem dX6_turn_39 : decode cX6_turn 39 = .ok (.ifCond .ne 6, 3) := by decide +kernel
theorem dX6_turn_42 : decode cX6_turn 42 = .ok (.bipush (-5), 2) := by decide +kernel
theorem dX6_turn_44 : decode cX6_turn 44 = .ok (.ireturn, 1) := by decide +kernel
theorem dX6_turn_45 : decode cX6_turn 45 = .ok (.aload_n 0, 1) := by decide +kernel
theorem dX6_turn_46 : decode cX6_turn 46 = .ok (.getfield 19, 3) := by decide +kernel
theorem dX6_turn_49 : decode cX6_turn 49 = .ok (.aload_n 0, 1) := by decide +kernel
theorem dX6_turn_50 : decode cX6_turn 50 = .ok (.getfield 12, 3) := by decide +kernel
theorem dX6_turn_53 : decode cX6_turn 53 = .ok (.invokevirtual 79, 3) := by decide +kernel
theorem dX6_turn_56 : decode cX6_turn 56 = .ok (.aload_n 0, 1) := by decide +kernel
theorem dX6_turn_57 : decode cX6_turn 57 = .ok (.getfield 12, 3) := by decide +kernel
theorem dX6_turn_60 : decode cX6_turn 60 = .ok (.iload 4, 2) := by decide +kernel
theorem dX6_turn_62 : decode cX6_turn 62 = .ok (.iload_n 3, 1) := by decide +kernel
theorem dX6_turn_63 : decode cX6_turn 63 = .ok (.invokevirtual 102, 3) := by decide +kernel
theorem dX6_turn_66 : decode cX6_turn 66 = .ok (.aload_n 0, 1) := by decide +kernel
theorem dX6_turn_67 : decode cX6_turn 67 = .ok (.getfield 12, 3) := by decide +kernel
theorem dX6_turn_70 : decode cX6_turn 70 = .ok (.iload 4, 2) := by decide +kernel
theorem dX6_turn_72 : decode cX6_turn 72 = .ok (.invokevirtual 99, 3) := by decide +kernel
theorem dX6_turn_75 : decode cX6_turn 75 = .ok (.ireturn, 1) := by decide +kernel
set_option maxRecDepth 20000 in
theorem ggX6_set_X6_isBetween : GoodIn wsX6_set wsX6_isBetween := goodIn_r _ [6] (by decide +kernel) (by decide +kernel)
set_option maxRecDepth 20000 in
theorem gX6_set_X6_isBetween : GoodIn wsX6_set (va_wsS RX6 68 yX6_isBetween wsX6_isBetween) := goodIn_app (goodIn_of _ (by decide +kernel)) ggX6_set_X6_isBetween
set_option maxRecDepth 20000 in
theorem ggX6_set_X6_isSettingInRange : GoodIn wsX6_set wsX6_isSettingInRange := goodIn_r _ [9, 3, 4, 5, 6] (by decide +kernel) (by decide +kernel)
set_option maxRecDepth 20000 in
theorem gX6_set_X6_isSettingInRange : GoodIn wsX6_set (va_wsS RX6 105 yX6_isSettingInRange wsX6_isSettingInRange) := goodIn_app (goodIn_of _ (by decide +kernel)) ggX6_set_X6_isSettingInRange
set_option maxRecDepth 20000 in
theorem ggX6_set_X6_wouldMixBounds : GoodIn wsX6_set wsX6_wouldMixBounds := goodIn_r _ [13, 1, 14, 15, 16, 17, 18, 19, 44, 45, 46, 47, 48, 49, 50, 51, 52, 53, 54] (by decide +kernel) (by decide +kernel)
set_option maxRecDepth 20000 in
theorem gX6_set_X6_wouldMixBounds : GoodIn wsX6_set (wsV RX6 108 RX6 yX6_wouldMixBounds wsX6_wouldMixBounds) := goodIn_app (goodIn_of _ (by decide +kernel)) ggX6_set_X6_wouldMixBounds
set_option maxRecDepth 20000 in
theorem ggX6_set_X0_setting : GoodIn wsX6_set wsX0_setting := goodIn_r _ [18, 19, 53, 54] (by decide +kernel) (by decide +kernel)
set_option maxRecDepth 20000 in
theorem gX6_set_X0_setting : GoodIn wsX6_set (wsV RX6 111 RX0 yX0_setting wsX0_setting) := goodIn_app (goodIn_of _ (by decide +kernel)) ggX6_set_X0_setting
set_option maxRecDepth 20000 in
theorem ggX6_set_X2_remember : GoodIn wsX6_set wsX2_remember := goodIn_r _ [24, 25, 26, 27, 28, 29, 30, 23, 31, 32, 33, 34, 17, 35, 19, 36, 37, 38, 39, 55, 56, 57, 53, 54] (by decide +kernel) (by decide +kernel)
set_option maxRecDepth 20000 in
theorem gX6_set_X2_remember : GoodIn wsX6_set (wsV RX6 79 RX2 yX2_remember wsX2_remember) := goodIn_app (goodIn_of _ (by decide +kernel)) ggX6_set_X2_remember
set_option maxRecDepth 20000 in
theorem ggX6_set_X0_putSetting : GoodIn wsX6_set wsX0_putSetting := goodIn_r _ [43, 19, 53, 54] (by decide +kernel) (by decide +kernel)
set_option maxRecDepth 20000 in
theorem gX6_set_X0_putSetting : GoodIn wsX6_set (wsV RX6 114 RX0 yX0_putSetting wsX0_putSetting) := goodIn_app (goodIn_of _ (by decide +kernel)) ggX6_set_X0_putSetting
theorem dX6_set_0 : decode cX6_set 0 = .ok (.iload_n 1, 1) := by decide +kernel
theorem dX6_set_1 : decode cX6_set 1 = .ok (.iconst 0, 1) := by decide +kernel
theorem dX6_set_2 : decode cX6_set 2 = .ok (.iconst 2, 1) := by decide +kernel
theorem dX6_set_3 : decode cX6_set 3 = .ok (.invokestatic 68, 3) := by decide +kernel
theorem dX6_set_6 : decode cX6_set 6 = .ok (.ifCond .ne 5, 3) := by decide +kernel
theorem dX6_set_9 : decode cX6_set 9 = .ok (.iconst (-1), 1) := by decide +kernel
theorem dX6_set_10 : decode cX6_set 10 = .ok (.ireturn, 1) := by decide +kernel
theorem dX6_set_11 : decode cX6_set 11 = .ok (.iload_n 1, 1) := by decide +kernel
theorem dX6_set_12 : decode cX6_set 12 = .ok (.iload_n 2, 1) := by decide +kernel
theorem dX6_set_13 : decode cX6_set 13 = .ok (.invokestatic 105, 3) := by decide +kernel
theorem dX6_set_16 : decode cX6_set 16 = .ok (.ifCond .ne 6, 3) := by decide +kernel
theorem dX6_set_19 : decode cX6_set 19 = .ok (.bipush (-2), 2) := by decide +kernel
theorem dX6_set_21 : decode cX6_set 21 = .ok (.ireturn, 1) := by decide +kernel
theorem dX6_set_22 : decode cX6_set 22 = .ok (.aload_n 0, 1) := by decide +kernel
theorem dX6_set_23 : decode cX6_set 23 = .ok (.iload_n 1, 1) := by decide +kernel
theorem dX6_set_24 : decode cX6_set 24 = .ok (.iload_n 2, 1) := by decide +kernel
theorem dX6_set_25 : decode cX6_set 25 = .ok (.invokevirtual 108, 3) := by decide +kernel
theorem dX6_set_28 : decode cX6_set 28 = .ok (.ifCond .eq 6, 3) := by decide +kernel
theorem dX6_set_31 : decode cX6_set 31 = .ok (.bipush (-4), 2) := by decide +kernel
theorem dX6_set_33 : decode cX6_set 33 = .ok (.ireturn, 1) := by decide +kernel
theorem dX6_set_34 : decode cX6_set 34 = .ok (.aload_n 0, 1) := by decide +kernel
theorem dX6_set_35 : decode cX6_set 35 = .ok (.getfield 12, 3) := by decide +kernel
theorem dX6_set_38 : decode cX6_set 38 = .ok (.iload_n 1, 1) := by decide +kernel
theorem dX6_set_39 : decode cX6_set 39 = .ok (.invokevirtual 111, 3) := by decide +kernel
theorem dX6_set_42 : decode cX6_set 42 = .ok (.istore_n 3, 1) := by decide +kernel
theorem dX6_set_43 : decode cX6_set 43 = .ok (.iload_n 3, 1) := by decide +kernel
theorem dX6_set_44 : decode cX6_set 44 = .ok (.iload_n 2, 1) := by decide +kernel
theorem dX6_set_45 : decode cX6_set 45 = .ok (.if_icmp .ne 6, 3) := by decide +kernel
theorem dX6_set_48 : decode cX6_set 48 = .ok (.bipush (-5), 2) := by decide +kernel
theorem dX6_set_50 : decode cX6_set 50 = .ok (.ireturn, 1) := by decide +kernel
theorem dX6_set_51 : decode cX6_set 51 = .ok (.aload_n 0, 1) := by decide +kernel
theorem dX6_set_52 : decode cX6_set 52 = .ok (.getfield 19, 3) := by decide +kernel
theorem dX6_set_55 : decode cX6_set 55 = .ok (.aload_n 0, 1) := by decide +kernel
theorem dX6_set_56 : decode cX6_set 56 = .ok (.getfield 12, 3) := by decide +kernel
theorem dX6_set_59 : decode cX6_set 59 = .ok (.invokevirtual 79, 3) := by decide +kernel
theorem dX6_set_62 : decode cX6_set 62 = .ok (.aload_n 0, 1) := by decide +kernel
theorem dX6_set_63 : decode cX6_set 63 = .ok (.getfield 12, 3) := by decide +kernel
theorem dX6_set_66 : decode cX6_set 66 = .ok (.iload_n 1, 1) := by decide +kernel
theorem dX6_set_67 : decode cX6_set 67 = .ok (.iload_n 2, 1) := by decide +kernel
theorem dX6_set_68 : decode cX6_set 68 = .ok (.invokevirtual 114, 3) := by decide +kernel
theorem dX6_set_71 : decode cX6_set 71 = .ok (.iload_n 3, 1) := by decide +kernel
theorem dX6_set_72 : decode cX6_set 72 = .ok (.ireturn, 1) := by decide +kernel
set_option maxRecDepth 20000 in
theorem ggX6_engrave_X6_isRose : GoodIn wsX6_engrave wsX6_isRose := goodIn_r _ [10, 11, 12, 9, 13] (by decide +kernel) (by decide +kernel)
set_option maxRecDepth 20000 in
theorem gX6_engrave_X6_isRose : GoodIn wsX6_engrave (va_wsS RX6 60 yX6_isRose wsX6_isRose) := goodIn_app (goodIn_of _ (by decide +kernel)) ggX6_engrave_X6_isRose
set_option maxRecDepth 20000 in
theorem ggX6_engrave_X6_roseOf : GoodIn wsX6_engrave wsX6_roseOf := goodIn_r _ [16] (by decide +kernel) (by decide +kernel)
set_option maxRecDepth 20000 in
theorem gX6_engrave_X6_roseOf : GoodIn wsX6_engrave (va_wsS RX6 72 yX6_roseOf wsX6_roseOf) := goodIn_app (goodIn_of _ (by decide +kernel)) ggX6_engrave_X6_roseOf
set_option maxRecDepth 20000 in
theorem ggX6_engrave_X6_obstacleTo : GoodIn wsX6_engrave wsX6_obstacleTo := goodIn_r _ [20, 2, 3, 6, 5, 21, 22, 23, 24, 25, 26, 27, 28, 29, 30, 31, 32, 33, 34, 35, 36, 37, 38, 39, 40, 41, 42, 43, 44, 45, 46, 47, 48, 49, 50, 51, 52, 53, 54, 55, 56, 57, 58, 59, 60, 61, 62, 9, 63, 64, 65, 66, 67, 68, 69, 70, 71, 72, 73, 74, 75, 76, 77, 78, 79, 80, 81, 82, 83, 84, 85, 86, 87, 88, 89, 90, 91, 92, 93, 94, 95, 96, 97, 98, 99, 100, 101, 102, 103, 104, 105, 132, 133, 134, 135, 136, 137, 138, 139, 140, 141, 142, 143, 144, 145, 146, 147, 148, 149, 150] (by decide +kernel) (by decide +kernel)
set_option maxRecDepth 20000 in
theorem gX6_engrave_X6_obstacleTo : GoodIn wsX6_engrave (wsV RX6 117 RX6 yX6_obstacleTo wsX6_obstacleTo) := goodIn_app (goodIn_of _ (by decide +kernel)) ggX6_engrave_X6_obstacleTo
set_option maxRecDepth 20000 in
theorem ggX6_engrave_X2_remember : GoodIn wsX6_engrave wsX2_remember := goodIn_r _ [110, 111, 112, 113, 114, 115, 116, 109, 117, 118, 119, 120, 24, 121, 30, 122, 123, 124, 125, 151, 152, 153, 145, 146] (by decide +kernel) (by decide +kernel)
set_option maxRecDepth 20000 in
theorem gX6_engrave_X2_remember : GoodIn wsX6_engrave (wsV RX6 79 RX2 yX2_remember wsX2_remember) := goodIn_app (goodIn_of _ (by decide +kernel)) ggX6_engrave_X2_remember
set_option maxRecDepth 20000 in
theorem ggX6_engrave_X0_cut : GoodIn wsX6_engrave wsX0_cut := goodIn_r _ [129, 130, 30, 122, 123, 124, 125, 131, 97, 98, 24, 99, 100, 22, 23, 25, 26, 27, 28, 29, 31, 32, 33, 34, 147, 148, 149, 150, 145, 146] (by decide +kernel) (by decide +kernel)
set_option maxRecDepth 20000 in
theorem gX6_engrave_X0_cut : GoodIn wsX6_engrave (wsV RX6 127 RX0 yX0_cut wsX0_cut) := goodIn_app (goodIn_of _ (by decide +kernel)) ggX6_engrave_X0_cut
theorem dX6_engrave_0 : decode cX6_engrave 0 = .ok (.iload_n 1, 1) := by decide +kernel
theorem dX6_engrave_1 : decode cX6_engrave 1 = .ok (.iload_n 2, 1) := by decide +kernel
theorem dX6_engrave_2 : decode cX6_engrave 2 = .ok (.invokestatic 60, 3) := by decide +kernel
theorem dX6_engrave_5 : decode cX6_engrave 5 = .ok (.ifCond .ne 5, 3) := by decide +kernel
theorem dX6_engrave_8 : decode cX6_engrave 8 = .ok (.iconst (-1), 1) := by decide +kernel
theorem dX6_engrave_9 : decode cX6_engrave 9 = .ok (.ireturn, 1) := by decide +kernel
theorem dX6_engrave_10 : decode cX6_engrave 10 = .ok (.iload_n 1, 1) := by decide +kernel
theorem dX6_engrave_11 : decode cX6_engrave 11 = .ok (.iload_n 2, 1) := by decide +kernel
theorem dX6_engrave_12 : decode cX6_engrave 12 = .ok (.invokestatic 72, 3) := by decide +kernel
theorem dX6_engrave_15 : decode cX6_engrave 15 = .ok (.istore_n 3, 1) := by decide +kernel
theorem dX6_engrave_16 : decode cX6_engrave 16 = .ok (.aload_n 0, 1) := by decide +kernel
theorem dX6_engrave_17 : decode cX6_engrave 17 = .ok (.iload_n 3, 1) := by decide +kernel
theorem dX6_engrave_18 : decode cX6_engrave 18 = .ok (.invokevirtual 117, 3) := by decide +kernel
theorem dX6_engrave_21 : decode cX6_engrave 21 = .ok (.istore 4, 2) := by decide +kernel
theorem dX6_engrave_23 : decode cX6_engrave 23 = .ok (.iload 4, 2) := by decide +kernel
theorem dX6_engrave_25 : decode cX6_engrave 25 = .ok (.iconst 1, 1) := by decide +kernel
theorem dX6_engrave_26 : decode cX6_engrave 26 = .ok (.if_icmp .eq 9, 3) := by decide +kernel
theorem dX6_engrave_29 : decode cX6_engrave 29 = .ok (.iload 4, 2) := by decide +kernel
theorem dX6_engrave_31 : decode cX6_engrave 31 = .ok (.iconst 3, 1) := by decide +kernel
theorem dX6_engrave_32 : decode cX6_engrave 32 = .ok (.if_icmp .ne 6, 3) := by decide +kernel
theorem dX6_engrave_35 : decode cX6_engrave 35 = .ok (.bipush (-4), 2) := by decide +kernel
theorem dX6_engrave_37 : decode cX6_engrave 37 = .ok (.ireturn, 1) := by decide +kernel
theorem dX6_engrave_38 : decode cX6_engrave 38 = .ok (.iload 4, 2) := by decide +kernel
theorem dX6_engrave_40 : decode cX6_engrave 40 = .ok (.iconst 2, 1) := by decide +kernel
theorem dX6_engrave_41 : decode cX6_engrave 41 = .ok (.if_icmp .ne 6, 3) := by decide +kernel
theorem dX6_engrave_44 : decode cX6_engrave 44 = .ok (.bipush (-5), 2) := by decide +kernel
theorem dX6_engrave_46 : decode cX6_engrave 46 = .ok (.ireturn, 1) := by decide +kernel
theorem dX6_engrave_47 : decode cX6_engrave 47 = .ok (.aload_n 0, 1) := by decide +kernel
theorem dX6_engrave_48 : decode cX6_engrave 48 = .ok (.getfield 19, 3) := by decide +kernel
theorem dX6_engrave_51 : decode cX6_engrave 51 = .ok (.aload_n 0, 1) := by decide +kernel
theorem dX6_engrave_52 : decode cX6_engrave 52 = .ok (.getfield 12, 3) := by decide +kernel
theorem dX6_engrave_55 : decode cX6_engrave 55 = .ok (.invokevirtual 79, 3) := by decide +kernel
theorem dX6_engrave_58 : decode cX6_engrave 58 = .ok (.aload_n 0, 1) := by decide +kernel
theorem dX6_engrave_59 : decode cX6_engrave 59 = .ok (.getfield 12, 3) := by decide +kernel
theorem dX6_engrave_62 : decode cX6_engrave 62 = .ok (.iload_n 3, 1) := by decide +kernel
theorem dX6_engrave_63 : decode cX6_engrave 63 = .ok (.aload_n 0, 1) := by decide +kernel
theorem dX6_engrave_64 : decode cX6_engrave 64 = .ok (.getfield 56, 3) := by decide +kernel
theorem dX6_engrave_67 : decode cX6_engrave 67 = .ok (.getfield 120, 3) := by decide +kernel
theorem dX6_engrave_70 : decode cX6_engrave 70 = .ok (.aload_n 0, 1) := by decide +kernel
theorem dX6_engrave_71 : decode cX6_engrave 71 = .ok (.getfield 56, 3) := by decide +kernel
theorem dX6_engrave_74 : decode cX6_engrave 74 = .ok (.getfield 123, 3) := by decide +kernel
theorem dX6_engrave_77 : decode cX6_engrave 77 = .ok (.invokevirtual 127, 3) := by decide +kernel
theorem dX6_engrave_80 : decode cX6_engrave 80 = .ok (.aload_n 0, 1) := by decide +kernel
theorem dX6_engrave_81 : decode cX6_engrave 81 = .ok (.getfield 56, 3) := by decide +kernel
theorem dX6_engrave_84 : decode cX6_engrave 84 = .ok (.getfield 131, 3) := by decide +kernel
theorem dX6_engrave_87 : decode cX6_engrave 87 = .ok (.ireturn, 1) := by decide +kernel
set_option maxRecDepth 20000 in
theorem ggX6_renew_X6_isRose : GoodIn wsX6_renew wsX6_isRose := goodIn_r _ [6, 7, 8, 5, 9] (by decide +kernel) (by decide +kernel)
set_option maxRecDepth 20000 in
theorem gX6_renew_X6_isRose : GoodIn wsX6_renew (va_wsS RX6 60 yX6_isRose wsX6_isRose) := goodIn_app (goodIn_of _ (by decide +kernel)) ggX6_renew_X6_isRose
set_option maxRecDepth 20000 in
theorem ggX6_renew_X6_roseOf : GoodIn wsX6_renew wsX6_roseOf := goodIn_r _ [12] (by decide +kernel) (by decide +kernel)
set_option maxRecDepth 20000 in
theorem gX6_renew_X6_roseOf : GoodIn wsX6_renew (va_wsS RX6 72 yX6_roseOf wsX6_roseOf) := goodIn_app (goodIn_of _ (by decide +kernel)) ggX6_renew_X6_roseOf
set_option maxRecDepth 20000 in
theorem ggX6_renew_X0_isNewPlate : GoodIn wsX6_renew wsX0_isNewPlate := goodIn_r _ [17, 18, 19, 20, 16, 21, 22, 23, 24, 25, 26, 27, 28, 29, 30, 31, 32, 33, 34, 69, 70] (by decide +kernel) (by decide +kernel)
set_option maxRecDepth 20000 in
theorem gX6_renew_X0_isNewPlate : GoodIn wsX6_renew (wsV RX6 134 RX0 yX0_isNewPlate wsX0_isNewPlate) := goodIn_app (goodIn_of _ (by decide +kernel)) ggX6_renew_X0_isNewPlate
set_option maxRecDepth 20000 in
theorem ggX6_renew_X0_scrapes : GoodIn wsX6_renew wsX0_scrapes := goodIn_r _ [34, 26, 69, 70] (by decide +kernel) (by decide +kernel)
set_option maxRecDepth 20000 in
theorem gX6_renew_X0_scrapes : GoodIn wsX6_renew (wsV RX6 137 RX0 yX0_scrapes wsX0_scrapes) := goodIn_app (goodIn_of _ (by decide +kernel)) ggX6_renew_X0_scrapes
set_option maxRecDepth 20000 in
theorem ggX6_renew_X2_remember : GoodIn wsX6_renew wsX2_remember := goodIn_r _ [40, 41, 42, 43, 44, 45, 46, 39, 47, 48, 49, 50, 16, 51, 26, 52, 53, 54, 55, 71, 72, 73, 69, 70] (by decide +kernel) (by decide +kernel)
set_option maxRecDepth 20000 in
theorem gX6_renew_X2_remember : GoodIn wsX6_renew (wsV RX6 79 RX2 yX2_remember wsX2_remember) := goodIn_app (goodIn_of _ (by decide +kernel)) ggX6_renew_X2_remember
set_option maxRecDepth 20000 in
theorem ggX6_renew_X0_putNewPlate : GoodIn wsX6_renew wsX0_putNewPlate := goodIn_r _ [59, 26, 69, 70] (by decide +kernel) (by decide +kernel)
set_option maxRecDepth 20000 in
theorem gX6_renew_X0_putNewPlate : GoodIn wsX6_renew (wsV RX6 139 RX0 yX0_putNewPlate wsX0_putNewPlate) := goodIn_app (goodIn_of _ (by decide +kernel)) ggX6_renew_X0_putNewPlate
theorem dX6_renew_0 : decode cX6_renew 0 = .ok (.iload_n 1, 1) := by decide +kernel
theorem dX6_renew_1 : decode cX6_renew 1 = .ok (.iload_n 2, 1) := by decide +kernel
theorem dX6_renew_2 : decode cX6_renew 2 = .ok (.invokestatic 60, 3) := by decide +kernel
theorem dX6_renew_5 : decode cX6_renew 5 = .ok (.ifCond .ne 5, 3) := by decide +kernel
theorem dX6_renew_8 : decode cX6_renew 8 = .ok (.iconst (-1), 1) := by decide +kernel
theorem dX6_renew_9 : decode cX6_renew 9 = .ok (.ireturn, 1) := by decide +kernel
theorem dX6_renew_10 : decode cX6_renew 10 = .ok (.iload_n 1, 1) := by decide +kernel
theorem dX6_renew_11 : decode cX6_renew 11 = .ok (.iload_n 2, 1) := by decide +kernel
theorem dX6_renew_12 : decode cX6_renew 12 = .ok (.invokestatic 72, 3) := by decide +kernel
theorem dX6_renew_15 : decode cX6_renew 15 = .ok (.istore_n 3, 1) := by decide +kernel
theorem dX6_renew_16 : decode cX6_renew 16 = .ok (.aload_n 0, 1) := by decide +kernel
theorem dX6_renew_17 : decode cX6_renew 17 = .ok (.getfield 12, 3) := by decide +kernel
theorem dX6_renew_20 : decode cX6_renew 20 = .ok (.iload_n 3, 1) := by decide +kernel
theorem dX6_renew_21 : decode cX6_renew 21 = .ok (.invokevirtual 134, 3) := by decide +kernel
theorem dX6_renew_24 : decode cX6_renew 24 = .ok (.ifCond .eq 6, 3) := by decide +kernel
theorem dX6_renew_27 : decode cX6_renew 27 = .ok (.bipush (-5), 2) := by decide +kernel
theorem dX6_renew_29 : decode cX6_renew 29 = .ok (.ireturn, 1) := by decide +kernel
theorem dX6_renew_30 : decode cX6_renew 30 = .ok (.aload_n 0, 1) := by decide +kernel
theorem dX6_renew_31 : decode cX6_renew 31 = .ok (.getfield 12, 3) := by decide +kernel
theorem dX6_renew_34 : decode cX6_renew 34 = .ok (.iload_n 3, 1) := by decide +kernel
theorem dX6_renew_35 : decode cX6_renew 35 = .ok (.invokevirtual 137, 3) := by decide +kernel
theorem dX6_renew_38 : decode cX6_renew 38 = .ok (.istore 4, 2) := by decide +kernel
theorem dX6_renew_40 : decode cX6_renew 40 = .ok (.aload_n 0, 1) := by decide +kernel
theorem dX6_renew_41 : decode cX6_renew 41 = .ok (.getfield 19, 3) := by decide +kernel
theorem dX6_renew_44 : decode cX6_renew 44 = .ok (.aload_n 0, 1) := by decide +kernel
theorem dX6_renew_45 : decode cX6_renew 45 = .ok (.getfield 12, 3) := by decide +kernel
theorem dX6_renew_48 : decode cX6_renew 48 = .ok (.invokevirtual 79, 3) := by decide +kernel
theorem dX6_renew_51 : decode cX6_renew 51 = .ok (.aload_n 0, 1) := by decide +kernel
theorem dX6_renew_52 : decode cX6_renew 52 = .ok (.getfield 12, 3) := by decide +kernel
theorem dX6_renew_55 : decode cX6_renew 55 = .ok (.iload_n 3, 1) := by decide +kernel
theorem dX6_renew_56 : decode cX6_renew 56 = .ok (.invokevirtual 139, 3) := by decide +kernel
theorem dX6_renew_59 : decode cX6_renew 59 = .ok (.iload 4, 2) := by decide +kernel
theorem dX6_renew_61 : decode cX6_renew 61 = .ok (.ireturn, 1) := by decide +kernel
set_option maxRecDepth 20000 in
theorem ggX6_logAll_X3_readAll : GoodIn wsX6_logAll wsX3_readAll := goodIn_r _ [11, 12, 13, 14, 15, 16, 17, 10, 18, 19, 20, 21, 22, 23, 24, 25, 26, 27, 28, 29, 30, 31, 32, 33, 34, 35, 36, 37, 38, 39, 40, 41, 42, 43, 44, 45, 46, 47, 48, 49, 50, 51, 52, 53, 54, 55, 56, 57, 58, 125, 126, 127, 128, 129, 130, 131, 132, 133] (by decide +kernel) (by decide +kernel)
set_option maxRecDepth 20000 in
theorem gX6_logAll_X3_readAll : GoodIn wsX6_logAll (wsV RX6 160 RX3 yX3_readAll wsX3_readAll) := goodIn_app (goodIn_of _ (by decide +kernel)) ggX6_logAll_X3_readAll
set_option maxRecDepth 20000 in
theorem ggX6_logAll_X3_hoursOf : GoodIn wsX6_logAll wsX3_hoursOf := goodIn_r _ [62, 13, 19, 54, 125, 126, 127, 128, 129, 130, 131] (by decide +kernel) (by decide +kernel)
set_option maxRecDepth 20000 in
theorem gX6_logAll_X3_hoursOf : GoodIn wsX6_logAll (wsV RX6 166 RX3 yX3_hoursOf wsX3_hoursOf) := goodIn_app (goodIn_of _ (by decide +kernel)) ggX6_logAll_X3_hoursOf
set_option maxRecDepth 20000 in
theorem ggX6_logAll_X0_hasRoom : GoodIn wsX6_logAll wsX0_hasRoom := goodIn_r _ [67, 68, 69, 70, 66, 71, 72, 73, 74, 75, 76, 77, 78, 79, 80, 134, 135] (by decide +kernel) (by decide +kernel)
set_option maxRecDepth 20000 in
theorem gX6_logAll_X0_hasRoom : GoodIn wsX6_logAll (wsV RX6 76 RX0 yX0_hasRoom wsX0_hasRoom) := goodIn_app (goodIn_of _ (by decide +kernel)) ggX6_logAll_X0_hasRoom
set_option maxRecDepth 20000 in
theorem ggX6_logAll_X2_remember : GoodIn wsX6_logAll wsX2_remember := goodIn_r _ [85, 86, 87, 88, 89, 90, 91, 84, 92, 93, 94, 95, 66, 96, 76, 97, 98, 99, 100, 136, 137, 138, 134, 135] (by decide +kernel) (by decide +kernel)
set_option maxRecDepth 20000 in
theorem gX6_logAll_X2_remember : GoodIn wsX6_logAll (wsV RX6 79 RX2 yX2_remember wsX2_remember) := goodIn_app (goodIn_of _ (by decide +kernel)) ggX6_logAll_X2_remember
set_option maxRecDepth 20000 in
theorem ggX6_logAll_X3_addEntry : GoodIn wsX6_logAll wsX3_addEntry := goodIn_r _ [104, 48, 19, 54, 49, 105, 106, 107, 66, 108, 76, 109, 110, 111, 112, 113, 114, 115, 125, 126, 127, 128, 129, 130, 131, 134, 135] (by decide +kernel) (by decide +kernel)
set_option maxRecDepth 20000 in
theorem gX6_logAll_X3_addEntry : GoodIn wsX6_logAll (wsV RX6 172 RX3 yX3_addEntry wsX3_addEntry) := goodIn_app (goodIn_of _ (by decide +kernel)) ggX6_logAll_X3_addEntry
theorem dX6_logAll_0 : decode cX6_logAll 0 = .ok (.aload_n 0, 1) := by decide +kernel
theorem dX6_logAll_1 : decode cX6_logAll 1 = .ok (.getfield 34, 3) := by decide +kernel
theorem dX6_logAll_4 : decode cX6_logAll 4 = .ok (.invokevirtual 160, 3) := by decide +kernel
theorem dX6_logAll_7 : decode cX6_logAll 7 = .ok (.ifCond .ne 14, 3) := by decide +kernel
theorem dX6_logAll_10 : decode cX6_logAll 10 = .ok (.bipush (-100), 2) := by decide +kernel
theorem dX6_logAll_12 : decode cX6_logAll 12 = .ok (.aload_n 0, 1) := by decide +kernel
theorem dX6_logAll_13 : decode cX6_logAll 13 = .ok (.getfield 34, 3) := by decide +kernel
theorem dX6_logAll_16 : decode cX6_logAll 16 = .ok (.getfield 163, 3) := by decide +kernel
theorem dX6_logAll_19 : decode cX6_logAll 19 = .ok (.isub, 1) := by decide +kernel
theorem dX6_logAll_20 : decode cX6_logAll 20 = .ok (.ireturn, 1) := by decide +kernel
theorem dX6_logAll_21 : decode cX6_logAll 21 = .ok (.iconst 0, 1) := by decide +kernel
theorem dX6_logAll_22 : decode cX6_logAll 22 = .ok (.istore_n 1, 1) := by decide +kernel
theorem dX6_logAll_23 : decode cX6_logAll 23 = .ok (.iload_n 1, 1) := by decide +kernel
theorem dX6_logAll_24 : decode cX6_logAll 24 = .ok (.bipush 16, 2) := by decide +kernel
theorem dX6_logAll_26 : decode cX6_logAll 26 = .ok (.if_icmp .ge 31, 3) := by decide +kernel
theorem dX6_logAll_29 : decode cX6_logAll 29 = .ok (.aload_n 0, 1) := by decide +kernel
theorem dX6_logAll_30 : decode cX6_logAll 30 = .ok (.getfield 12, 3) := by decide +kernel
theorem dX6_logAll_33 : decode cX6_logAll 33 = .ok (.iload_n 1, 1) := by decide +kernel
theorem dX6_logAll_34 : decode cX6_logAll 34 = .ok (.aload_n 0, 1) := by decide +kernel
theorem dX6_logAll_35 : decode cX6_logAll 35 = .ok (.getfield 34, 3) := by decide +kernel
theorem dX6_logAll_38 : decode cX6_logAll 38 = .ok (.iload_n 1, 1) := by decide +kernel
theorem dX6_logAll_39 : decode cX6_logAll 39 = .ok (.invokevirtual 166, 3) := by decide +kernel
theorem dX6_logAll_42 : decode cX6_logAll 42 = .ok (.invokevirtual 76, 3) := by decide +kernel
theorem dX6_logAll_45 : decode cX6_logAll 45 = .ok (.ifCond .ne 6, 3) := by decide +kernel
theorem dX6_logAll_48 : decode cX6_logAll 48 = .ok (.bipush (-3), 2) := by decide +kernel
theorem dX6_logAll_50 : decode cX6_logAll 50 = .ok (.ireturn, 1) := by decide +kernel
theorem dX6_logAll_51 : decode cX6_logAll 51 = .ok (.iinc 1 1, 3) := by decide +kernel
theorem dX6_logAll_54 : decode cX6_logAll 54 = .ok (.goto (-31), 3) := by decide +kernel
theorem dX6_logAll_57 : decode cX6_logAll 57 = .ok (.aload_n 0, 1) := by decide +kernel
theorem dX6_logAll_58 : decode cX6_logAll 58 = .ok (.getfield 19, 3) := by decide +kernel
theorem dX6_logAll_61 : decode cX6_logAll 61 = .ok (.aload_n 0, 1) := by decide +kernel
theorem dX6_logAll_62 : decode cX6_logAll 62 = .ok (.getfield 12, 3) := by decide +kernel
theorem dX6_logAll_65 : decode cX6_logAll 65 = .ok (.invokevirtual 79, 3) := by decide +kernel
theorem dX6_logAll_68 : decode cX6_logAll 68 = .ok (.iconst 0, 1) := by decide +kernel
theorem dX6_logAll_69 : decode cX6_logAll 69 = .ok (.istore_n 1, 1) := by decide +kernel
theorem dX6_logAll_70 : decode cX6_logAll 70 = .ok (.iconst 0, 1) := by decide +kernel
theorem dX6_logAll_71 : decode cX6_logAll 71 = .ok (.istore_n 2, 1) := by decide +kernel
theorem dX6_logAll_72 : decode cX6_logAll 72 = .ok (.iload_n 2, 1) := by decide +kernel
theorem dX6_logAll_73 : decode cX6_logAll 73 = .ok (.aload_n 0, 1) := by decide +kernel
theorem dX6_logAll_74 : decode cX6_logAll 74 = .ok (.getfield 34, 3) := by decide +kernel
theorem dX6_logAll_77 : decode cX6_logAll 77 = .ok (.getfield 169, 3) := by decide +kernel
theorem dX6_logAll_80 : decode cX6_logAll 80 = .ok (.if_icmp .ge 33, 3) := by decide +kernel
theorem dX6_logAll_83 : decode cX6_logAll 83 = .ok (.aload_n 0, 1) := by decide +kernel
theorem dX6_logAll_84 : decode cX6_logAll 84 = .ok (.getfield 34, 3) := by decide +kernel
theorem dX6_logAll_87 : decode cX6_logAll 87 = .ok (.aload_n 0, 1) := by decide +kernel
theorem dX6_logAll_88 : decode cX6_logAll 88 = .ok (.getfield 12, 3) := by decide +kernel
theorem dX6_logAll_91 : decode cX6_logAll 91 = .ok (.iload_n 2, 1) := by decide +kernel
theorem dX6_logAll_92 : decode cX6_logAll 92 = .ok (.invokevirtual 172, 3) := by decide +kernel
theorem dX6_logAll_95 : decode cX6_logAll 95 = .ok (.iload_n 1, 1) := by decide +kernel
theorem dX6_logAll_96 : decode cX6_logAll 96 = .ok (.aload_n 0, 1) := by decide +kernel
theorem dX6_logAll_97 : decode cX6_logAll 97 = .ok (.getfield 34, 3) := by decide +kernel
theorem dX6_logAll_100 : decode cX6_logAll 100 = .ok (.getfield 176, 3) := by decide +kernel
theorem dX6_logAll_103 : decode cX6_logAll 103 = .ok (.iload_n 2, 1) := by decide +kernel
theorem dX6_logAll_104 : decode cX6_logAll 104 = .ok (.iaload, 1) := by decide +kernel
theorem dX6_logAll_105 : decode cX6_logAll 105 = .ok (.iadd, 1) := by decide +kernel
theorem dX6_logAll_106 : decode cX6_logAll 106 = .ok (.istore_n 1, 1) := by decide +kernel
theorem dX6_logAll_107 : decode cX6_logAll 107 = .ok (.iinc 2 1, 3) := by decide +kernel
theorem dX6_logAll_110 : decode cX6_logAll 110 = .ok (.goto (-38), 3) := by decide +kernel
theorem dX6_logAll_113 : decode cX6_logAll 113 = .ok (.iload_n 1, 1) := by decide +kernel
theorem dX6_logAll_114 : decode cX6_logAll 114 = .ok (.ireturn, 1) := by decide +kernel
set_option maxRecDepth 20000 in
theorem ggX6_undo_X2_takeBack : GoodIn wsX6_undo wsX2_takeBack := goodIn_r _ [8, 9, 10, 11, 12, 13, 7, 14, 15, 16, 17, 18, 19, 20, 21, 22, 23, 24, 25, 35, 36, 37, 38, 39] (by decide +kernel) (by decide +kernel)
set_option maxRecDepth 20000 in
theorem gX6_undo_X2_takeBack : GoodIn wsX6_undo (wsV RX6 182 RX2 yX2_takeBack wsX2_takeBack) := goodIn_app (goodIn_of _ (by decide +kernel)) ggX6_undo_X2_takeBack
theorem dX6_undo_0 : decode cX6_undo 0 = .ok (.aload_n 0, 1) := by decide +kernel
theorem dX6_undo_1 : decode cX6_undo 1 = .ok (.getfield 19, 3) := by decide +kernel
theorem dX6_undo_4 : decode cX6_undo 4 = .ok (.getfield 179, 3) := by decide +kernel
theorem dX6_undo_7 : decode cX6_undo 7 = .ok (.ifCond .ne 6, 3) := by decide +kernel
theorem dX6_undo_10 : decode cX6_undo 10 = .ok (.bipush (-5), 2) := by decide +kernel
theorem dX6_undo_12 : decode cX6_undo 12 = .ok (.ireturn, 1) := by decide +kernel
theorem dX6_undo_13 : decode cX6_undo 13 = .ok (.aload_n 0, 1) := by decide +kernel
theorem dX6_undo_14 : decode cX6_undo 14 = .ok (.getfield 19, 3) := by decide +kernel
theorem dX6_undo_17 : decode cX6_undo 17 = .ok (.aload_n 0, 1) := by decide +kernel
theorem dX6_undo_18 : decode cX6_undo 18 = .ok (.getfield 12, 3) := by decide +kernel
theorem dX6_undo_21 : decode cX6_undo 21 = .ok (.invokevirtual 182, 3) := by decide +kernel
theorem dX6_undo_24 : decode cX6_undo 24 = .ok (.aload_n 0, 1) := by decide +kernel
theorem dX6_undo_25 : decode cX6_undo 25 = .ok (.getfield 19, 3) := by decide +kernel
theorem dX6_undo_28 : decode cX6_undo 28 = .ok (.getfield 179, 3) := by decide +kernel
theorem dX6_undo_31 : decode cX6_undo 31 = .ok (.ireturn, 1) := by decide +kernel
set_option maxRecDepth 20000 in
theorem ggX6_restore_X2_remember : GoodIn wsX6_restore wsX2_remember := goodIn_r _ [9, 10, 11, 12, 13, 14, 15, 8, 16, 17, 18, 19, 20, 21, 22, 23, 24, 25, 26, 48, 49, 50, 51, 52] (by decide +kernel) (by decide +kernel)
set_option maxRecDepth 20000 in
theorem gX6_restore_X2_remember : GoodIn wsX6_restore (wsV RX6 79 RX2 yX2_remember wsX2_remember) := goodIn_app (goodIn_of _ (by decide +kernel)) ggX6_restore_X2_remember
set_option maxRecDepth 20000 in
theorem ggX6_restore_X0_loadFrom : GoodIn wsX6_restore wsX0_loadFrom := goodIn_r _ [30, 22, 23, 24, 25, 26, 51, 52] (by decide +kernel) (by decide +kernel)
set_option maxRecDepth 20000 in
theorem gX6_restore_X0_loadFrom : GoodIn wsX6_restore (wsV RX6 192 RX0 yX0_loadFrom wsX0_loadFrom) := goodIn_app (goodIn_of _ (by decide +kernel)) ggX6_restore_X0_loadFrom
set_option maxRecDepth 20000 in
theorem ggX6_restore_X0_hoursOfAll : GoodIn wsX6_restore wsX0_hoursOfAll := goodIn_r _ [34, 35, 36, 37, 20, 38, 22, 51, 52] (by decide +kernel) (by decide +kernel)
set_option maxRecDepth 20000 in
theorem gX6_restore_X0_hoursOfAll : GoodIn wsX6_restore (wsV RX6 189 RX0 yX0_hoursOfAll wsX0_hoursOfAll) := goodIn_app (goodIn_of _ (by decide +kernel)) ggX6_restore_X0_hoursOfAll
theorem dX6_restore_0 : decode cX6_restore 0 = .ok (.aload_n 0, 1) := by decide +kernel
theorem dX6_restore_1 : decode cX6_restore 1 = .ok (.getfield 27, 3) := by decide +kernel
theorem dX6_restore_4 : decode cX6_restore 4 = .ok (.ifCond .ne 6, 3) := by decide +kernel
theorem dX6_restore_7 : decode cX6_restore 7 = .ok (.bipush (-5), 2) := by decide +kernel
theorem dX6_restore_9 : decode cX6_restore 9 = .ok (.ireturn, 1) := by decide +kernel
theorem dX6_restore_10 : decode cX6_restore 10 = .ok (.aload_n 0, 1) := by decide +kernel
theorem dX6_restore_11 : decode cX6_restore 11 = .ok (.getfield 19, 3) := by decide +kernel
theorem dX6_restore_14 : decode cX6_restore 14 = .ok (.aload_n 0, 1) := by decide +kernel
theorem dX6_restore_15 : decode cX6_restore 15 = .ok (.getfield 12, 3) := by decide +kernel
theorem dX6_restore_18 : decode cX6_restore 18 = .ok (.invokevirtual 79, 3) := by decide +kernel
theorem dX6_restore_21 : decode cX6_restore 21 = .ok (.aload_n 0, 1) := by decide +kernel
theorem dX6_restore_22 : decode cX6_restore 22 = .ok (.getfield 12, 3) := by decide +kernel
theorem dX6_restore_25 : decode cX6_restore 25 = .ok (.aload_n 0, 1) := by decide +kernel
theorem dX6_restore_26 : decode cX6_restore 26 = .ok (.getfield 23, 3) := by decide +kernel
theorem dX6_restore_29 : decode cX6_restore 29 = .ok (.iconst 0, 1) := by decide +kernel
theorem dX6_restore_30 : decode cX6_restore 30 = .ok (.invokevirtual 192, 3) := by decide +kernel
theorem dX6_restore_33 : decode cX6_restore 33 = .ok (.aload_n 0, 1) := by decide +kernel
theorem dX6_restore_34 : decode cX6_restore 34 = .ok (.getfield 12, 3) := by decide +kernel
theorem dX6_restore_37 : decode cX6_restore 37 = .ok (.invokevirtual 189, 3) := by decide +kernel
theorem dX6_restore_40 : decode cX6_restore 40 = .ok (.ireturn, 1) := by decide +kernel
set_option maxRecDepth 20000 in
theorem ggX6_rose_X6_isRose : GoodIn wsX6_rose wsX6_isRose := goodIn_r _ [5, 6, 7, 4, 8] (by decide +kernel) (by decide +kernel)
set_option maxRecDepth 20000 in
theorem gX6_rose_X6_isRose : GoodIn wsX6_rose (va_wsS RX6 60 yX6_isRose wsX6_isRose) := goodIn_app (goodIn_of _ (by decide +kernel)) ggX6_rose_X6_isRose
set_option maxRecDepth 20000 in
theorem ggX6_rose_X6_roseOf : GoodIn wsX6_rose wsX6_roseOf := goodIn_r _ [11] (by decide +kernel) (by decide +kernel)
set_option maxRecDepth 20000 in
theorem gX6_rose_X6_roseOf : GoodIn wsX6_rose (va_wsS RX6 72 yX6_roseOf wsX6_roseOf) := goodIn_app (goodIn_of _ (by decide +kernel)) ggX6_rose_X6_roseOf
set_option maxRecDepth 20000 in
theorem ggX6_rose_X0_allHours : GoodIn wsX6_rose wsX0_allHours := goodIn_r _ [16, 17, 18, 19, 15, 20, 21, 22, 23, 24, 25, 85, 86] (by decide +kernel) (by decide +kernel)
set_option maxRecDepth 20000 in
theorem gX6_rose_X0_allHours : GoodIn wsX6_rose (wsV RX6 87 RX0 yX0_allHours wsX0_allHours) := goodIn_app (goodIn_of _ (by decide +kernel)) ggX6_rose_X0_allHours
set_option maxRecDepth 20000 in
theorem ggX6_rose_X0_windyHours : GoodIn wsX6_rose wsX0_windyHours := goodIn_r _ [20, 21, 85, 86] (by decide +kernel) (by decide +kernel)
set_option maxRecDepth 20000 in
theorem gX6_rose_X0_windyHours : GoodIn wsX6_rose (wsV RX6 99 RX0 yX0_windyHours wsX0_windyHours) := goodIn_app (goodIn_of _ (by decide +kernel)) ggX6_rose_X0_windyHours
set_option maxRecDepth 20000 in
theorem ggX6_rose_X0_calmHours : GoodIn wsX6_rose wsX0_calmHours := goodIn_r _ [25, 21, 85, 86] (by decide +kernel) (by decide +kernel)
set_option maxRecDepth 20000 in
theorem gX6_rose_X0_calmHours : GoodIn wsX6_rose (wsV RX6 195 RX0 yX0_calmHours wsX0_calmHours) := goodIn_app (goodIn_of _ (by decide +kernel)) ggX6_rose_X0_calmHours
set_option maxRecDepth 20000 in
theorem ggX6_rose_X0_calmShare : GoodIn wsX6_rose wsX0_calmShare := goodIn_r _ [31, 32, 13, 14, 15, 16, 17, 18, 19, 20, 21, 22, 23, 24, 25, 85, 86] (by decide +kernel) (by decide +kernel)
set_option maxRecDepth 20000 in
theorem gX6_rose_X0_calmShare : GoodIn wsX6_rose (wsV RX6 198 RX0 yX0_calmShare wsX0_calmShare) := goodIn_app (goodIn_of _ (by decide +kernel)) ggX6_rose_X0_calmShare
set_option maxRecDepth 20000 in
theorem ggX6_rose_X6_greatestSpeed : GoodIn wsX6_rose wsX6_greatestSpeed := goodIn_r _ [36, 1, 37, 38, 39, 15, 40, 41, 42, 43, 44, 21, 45, 46, 47, 76, 77, 78, 79, 80, 81, 82, 83, 84, 85, 86] (by decide +kernel) (by decide +kernel)
set_option maxRecDepth 20000 in
theorem gX6_rose_X6_greatestSpeed : GoodIn wsX6_rose (wsV RX6 201 RX6 yX6_greatestSpeed wsX6_greatestSpeed) := goodIn_app (goodIn_of _ (by decide +kernel)) ggX6_rose_X6_greatestSpeed
set_option maxRecDepth 20000 in
theorem ggX6_rose_X6_meanSpeed : GoodIn wsX6_rose wsX6_meanSpeed := goodIn_r _ [51, 1, 26, 18, 19, 15, 20, 21, 37, 38, 39, 40, 41, 42, 43, 44, 45, 46, 47, 76, 77, 78, 79, 80, 81, 82, 83, 84, 85, 86] (by decide +kernel) (by decide +kernel)
set_option maxRecDepth 20000 in
theorem gX6_rose_X6_meanSpeed : GoodIn wsX6_rose (wsV RX6 204 RX6 yX6_meanSpeed wsX6_meanSpeed) := goodIn_app (goodIn_of _ (by decide +kernel)) ggX6_rose_X6_meanSpeed
set_option maxRecDepth 20000 in
theorem ggX6_rose_X0_classHours : GoodIn wsX6_rose wsX0_classHours := goodIn_r _ [55, 56, 57, 58, 15, 59, 60, 61, 62, 63, 21, 64, 65, 66, 67, 85, 86] (by decide +kernel) (by decide +kernel)
set_option maxRecDepth 20000 in
theorem gX6_rose_X0_classHours : GoodIn wsX6_rose (wsV RX6 207 RX0 yX0_classHours wsX0_classHours) := goodIn_app (goodIn_of _ (by decide +kernel)) ggX6_rose_X0_classHours
set_option maxRecDepth 20000 in
theorem ggX6_rose_X6_prevailingDirection : GoodIn wsX6_rose wsX6_prevailingDirection := goodIn_r _ [71, 1, 72, 73, 74, 15, 75, 64, 65, 66, 67, 21, 76, 77, 78, 79, 80, 81, 82, 83, 84, 85, 86] (by decide +kernel) (by decide +kernel)
set_option maxRecDepth 20000 in
theorem gX6_rose_X6_prevailingDirection : GoodIn wsX6_rose (wsV RX6 210 RX6 yX6_prevailingDirection wsX6_prevailingDirection) := goodIn_app (goodIn_of _ (by decide +kernel)) ggX6_rose_X6_prevailingDirection
theorem dX6_rose_0 : decode cX6_rose 0 = .ok (.iload_n 1, 1) := by decide +kernel
theorem dX6_rose_1 : decode cX6_rose 1 = .ok (.iload_n 2, 1) := by decide +kernel
theorem dX6_rose_2 : decode cX6_rose 2 = .ok (.invokestatic 60, 3) := by decide +kernel
theorem dX6_rose_5 : decode cX6_rose 5 = .ok (.ifCond .ne 5, 3) := by decide +kernel
theorem dX6_rose_8 : decode cX6_rose 8 = .ok (.iconst (-1), 1) := by decide +kernel
theorem dX6_rose_9 : decode cX6_rose 9 = .ok (.ireturn, 1) := by decide +kernel
theorem dX6_rose_10 : decode cX6_rose 10 = .ok (.iload_n 1, 1) := by decide +kernel
theorem dX6_rose_11 : decode cX6_rose 11 = .ok (.iload_n 2, 1) := by decide +kernel
theorem dX6_rose_12 : decode cX6_rose 12 = .ok (.invokestatic 72, 3) := by decide +kernel
theorem dX6_rose_15 : decode cX6_rose 15 = .ok (.istore 4, 2) := by decide +kernel
theorem dX6_rose_17 : decode cX6_rose 17 = .ok (.iload_n 3, 1) := by decide +kernel
theorem dX6_rose_18 : decode cX6_rose 18 = .ok (.tableswitch 129 0 9 #[54, 64, 74, 84, 94, 101, 108, 108, 108, 122], 54) := by decide +kernel
theorem dX6_rose_72 : decode cX6_rose 72 = .ok (.aload_n 0, 1) := by decide +kernel
theorem dX6_rose_73 : decode cX6_rose 73 = .ok (.getfield 12, 3) := by decide +kernel
theorem dX6_rose_76 : decode cX6_rose 76 = .ok (.iload 4, 2) := by decide +kernel
theorem dX6_rose_78 : decode cX6_rose 78 = .ok (.invokevirtual 87, 3) := by decide +kernel
theorem dX6_rose_81 : decode cX6_rose 81 = .ok (.ireturn, 1) := by decide +kernel
theorem dX6_rose_82 : decode cX6_rose 82 = .ok (.aload_n 0, 1) := by decide +kernel
theorem dX6_rose_83 : decode cX6_rose 83 = .ok (.getfield 12, 3) := by decide +kernel
theorem dX6_rose_86 : decode cX6_rose 86 = .ok (.iload 4, 2) := by decide +kernel
theorem dX6_rose_88 : decode cX6_rose 88 = .ok (.invokevirtual 99, 3) := by decide +kernel
theorem dX6_rose_91 : decode cX6_rose 91 = .ok (.ireturn, 1) := by decide +kernel
theorem dX6_rose_92 : decode cX6_rose 92 = .ok (.aload_n 0, 1) := by decide +kernel
theorem dX6_rose_93 : decode cX6_rose 93 = .ok (.getfield 12, 3) := by decide +kernel
theorem dX6_rose_96 : decode cX6_rose 96 = .ok (.iload 4, 2) := by decide +kernel
theorem dX6_rose_98 : decode cX6_rose 98 = .ok (.invokevirtual 195, 3) := by decide +kernel
theorem dX6_rose_101 : decode cX6_rose 101 = .ok (.ireturn, 1) := by decide +kernel
theorem dX6_rose_102 : decode cX6_rose 102 = .ok (.aload_n 0, 1) := by decide +kernel
theorem dX6_rose_103 : decode cX6_rose 103 = .ok (.getfield 12, 3) := by decide +kernel
theorem dX6_rose_106 : decode cX6_rose 106 = .ok (.iload 4, 2) := by decide +kernel
theorem dX6_rose_108 : decode cX6_rose 108 = .ok (.invokevirtual 198, 3) := by decide +kernel
theorem dX6_rose_111 : decode cX6_rose 111 = .ok (.ireturn, 1) := by decide +kernel
theorem dX6_rose_112 : decode cX6_rose 112 = .ok (.aload_n 0, 1) := by decide +kernel
theorem dX6_rose_113 : decode cX6_rose 113 = .ok (.iload 4, 2) := by decide +kernel
theorem dX6_rose_115 : decode cX6_rose 115 = .ok (.invokevirtual 201, 3) := by decide +kernel
theorem dX6_rose_118 : decode cX6_rose 118 = .ok (.ireturn, 1) := by decide +kernel
theorem dX6_rose_119 : decode cX6_rose 119 = .ok (.aload_n 0, 1) := by decide +kernel
theorem dX6_rose_120 : decode cX6_rose 120 = .ok (.iload 4, 2) := by decide +kernel
theorem dX6_rose_122 : decode cX6_rose 122 = .ok (.invokevirtual 204, 3) := by decide +kernel
theorem dX6_rose_125 : decode cX6_rose 125 = .ok (.ireturn, 1) := by decide +kernel
theorem dX6_rose_126 : decode cX6_rose 126 = .ok (.aload_n 0, 1) := by decide +kernel
theorem dX6_rose_127 : decode cX6_rose 127 = .ok (.getfield 12, 3) := by decide +kernel
theorem dX6_rose_130 : decode cX6_rose 130 = .ok (.iload 4, 2) := by decide +kernel
theorem dX6_rose_132 : decode cX6_rose 132 = .ok (.iload_n 3, 1) := by decide +kernel
theorem dX6_rose_133 : decode cX6_rose 133 = .ok (.bipush 6, 2) := by decide +kernel
theorem dX6_rose_135 : decode cX6_rose 135 = .ok (.isub, 1) := by decide +kernel
theorem dX6_rose_136 : decode cX6_rose 136 = .ok (.invokevirtual 207, 3) := by decide +kernel
theorem dX6_rose_139 : decode cX6_rose 139 = .ok (.ireturn, 1) := by decide +kernel
theorem dX6_rose_140 : decode cX6_rose 140 = .ok (.aload_n 0, 1) := by decide +kernel
theorem dX6_rose_141 : decode cX6_rose 141 = .ok (.iload 4, 2) := by decide +kernel
theorem dX6_rose_143 : decode cX6_rose 143 = .ok (.invokevirtual 210, 3) := by decide +kernel
theorem dX6_rose_146 : decode cX6_rose 146 = .ok (.ireturn, 1) := by decide +kernel
theorem dX6_rose_147 : decode cX6_rose 147 = .ok (.bipush (-2), 2) := by decide +kernel
theorem dX6_rose_149 : decode cX6_rose 149 = .ok (.ireturn, 1) := by decide +kernel
set_option maxRecDepth 20000 in
theorem ggX6_hours_X6_isRose : GoodIn wsX6_hours wsX6_isRose := goodIn_r _ [5, 6, 7, 4, 8] (by decide +kernel) (by decide +kernel)
set_option maxRecDepth 20000 in
theorem gX6_hours_X6_isRose : GoodIn wsX6_hours (va_wsS RX6 60 yX6_isRose wsX6_isRose) := goodIn_app (goodIn_of _ (by decide +kernel)) ggX6_hours_X6_isRose
set_option maxRecDepth 20000 in
theorem ggX6_hours_X6_isDirection : GoodIn wsX6_hours wsX6_isDirection := goodIn_r _ [11, 6, 7, 4, 8] (by decide +kernel) (by decide +kernel)
set_option maxRecDepth 20000 in
theorem gX6_hours_X6_isDirection : GoodIn wsX6_hours (va_wsS RX6 64 yX6_isDirection wsX6_isDirection) := goodIn_app (goodIn_of _ (by decide +kernel)) ggX6_hours_X6_isDirection
set_option maxRecDepth 20000 in
theorem ggX6_hours_X6_roseOf : GoodIn wsX6_hours wsX6_roseOf := goodIn_r _ [14] (by decide +kernel) (by decide +kernel)
set_option maxRecDepth 20000 in
theorem gX6_hours_X6_roseOf : GoodIn wsX6_hours (va_wsS RX6 72 yX6_roseOf wsX6_roseOf) := goodIn_app (goodIn_of _ (by decide +kernel)) ggX6_hours_X6_roseOf
set_option maxRecDepth 20000 in
theorem ggX6_hours_X0_directionHours : GoodIn wsX6_hours wsX0_directionHours := goodIn_r _ [19, 20, 21, 22, 18, 23, 24, 45, 46] (by decide +kernel) (by decide +kernel)
set_option maxRecDepth 20000 in
theorem gX6_hours_X0_directionHours : GoodIn wsX6_hours (wsV RX6 213 RX0 yX0_directionHours wsX0_directionHours) := goodIn_app (goodIn_of _ (by decide +kernel)) ggX6_hours_X0_directionHours
set_option maxRecDepth 20000 in
theorem ggX6_hours_X6_isClass : GoodIn wsX6_hours wsX6_isClass := goodIn_r _ [27, 6, 7, 4, 8] (by decide +kernel) (by decide +kernel)
set_option maxRecDepth 20000 in
theorem gX6_hours_X6_isClass : GoodIn wsX6_hours (va_wsS RX6 216 yX6_isClass wsX6_isClass) := goodIn_app (goodIn_of _ (by decide +kernel)) ggX6_hours_X6_isClass
set_option maxRecDepth 20000 in
theorem ggX6_hours_X0_partHours : GoodIn wsX6_hours wsX0_partHours := goodIn_r _ [31, 32, 33, 34, 18, 35, 24, 20, 21, 22, 23, 45, 46] (by decide +kernel) (by decide +kernel)
set_option maxRecDepth 20000 in
theorem gX6_hours_X0_partHours : GoodIn wsX6_hours (wsV RX6 219 RX0 yX0_partHours wsX0_partHours) := goodIn_app (goodIn_of _ (by decide +kernel)) ggX6_hours_X0_partHours
theorem dX6_hours_0 : decode cX6_hours 0 = .ok (.iload_n 1, 1) := by decide +kernel
theorem dX6_hours_1 : decode cX6_hours 1 = .ok (.iload_n 2, 1) := by decide +kernel
theorem dX6_hours_2 : decode cX6_hours 2 = .ok (.invokestatic 60, 3) := by decide +kernel
theorem dX6_hours_5 : decode cX6_hours 5 = .ok (.ifCond .eq 10, 3) := by decide +kernel
theorem dX6_hours_8 : decode cX6_hours 8 = .ok (.iload_n 3, 1) := by decide +kernel
theorem dX6_hours_9 : decode cX6_hours 9 = .ok (.invokestatic 64, 3) := by decide +kernel
theorem dX6_hours_12 : decode cX6_hours 12 = .ok (.ifCond .ne 5, 3) := by decide +kernel
theorem dX6_hours_15 : decode cX6_hours 15 = .ok (.iconst (-1), 1) := by decide +kernel
theorem dX6_hours_16 : decode cX6_hours 16 = .ok (.ireturn, 1) := by decide +kernel
theorem dX6_hours_17 : decode cX6_hours 17 = .ok (.iload_n 1, 1) := by decide +kernel
theorem dX6_hours_18 : decode cX6_hours 18 = .ok (.iload_n 2, 1) := by decide +kernel
theorem dX6_hours_19 : decode cX6_hours 19 = .ok (.invokestatic 72, 3) := by decide +kernel
theorem dX6_hours_22 : decode cX6_hours 22 = .ok (.istore 5, 2) := by decide +kernel
theorem dX6_hours_24 : decode cX6_hours 24 = .ok (.iload 4, 2) := by decide +kernel
theorem dX6_hours_26 : decode cX6_hours 26 = .ok (.iconst 3, 1) := by decide +kernel
theorem dX6_hours_27 : decode cX6_hours 27 = .ok (.if_icmp .ne 14, 3) := by decide +kernel
theorem dX6_hours_30 : decode cX6_hours 30 = .ok (.aload_n 0, 1) := by decide +kernel
theorem dX6_hours_31 : decode cX6_hours 31 = .ok (.getfield 12, 3) := by decide +kernel
theorem dX6_hours_34 : decode cX6_hours 34 = .ok (.iload 5, 2) := by decide +kernel
theorem dX6_hours_36 : decode cX6_hours 36 = .ok (.iload_n 3, 1) := by decide +kernel
theorem dX6_hours_37 : decode cX6_hours 37 = .ok (.invokevirtual 213, 3) := by decide +kernel
theorem dX6_hours_40 : decode cX6_hours 40 = .ok (.ireturn, 1) := by decide +kernel
theorem dX6_hours_41 : decode cX6_hours 41 = .ok (.iload 4, 2) := by decide +kernel
theorem dX6_hours_43 : decode cX6_hours 43 = .ok (.invokestatic 216, 3) := by decide +kernel
theorem dX6_hours_46 : decode cX6_hours 46 = .ok (.ifCond .eq 18, 3) := by decide +kernel
theorem dX6_hours_49 : decode cX6_hours 49 = .ok (.aload_n 0, 1) := by decide +kernel
theorem dX6_hours_50 : decode cX6_hours 50 = .ok (.getfield 12, 3) := by decide +kernel
theorem dX6_hours_53 : decode cX6_hours 53 = .ok (.iload 5, 2) := by decide +kernel
theorem dX6_hours_55 : decode cX6_hours 55 = .ok (.iload_n 3, 1) := by decide +kernel
theorem dX6_hours_56 : decode cX6_hours 56 = .ok (.iload 4, 2) := by decide +kernel
theorem dX6_hours_58 : decode cX6_hours 58 = .ok (.invokevirtual 219, 3) := by decide +kernel
theorem dX6_hours_61 : decode cX6_hours 61 = .ok (.goto 4, 3) := by decide +kernel
theorem dX6_hours_64 : decode cX6_hours 64 = .ok (.iconst (-1), 1) := by decide +kernel
theorem dX6_hours_65 : decode cX6_hours 65 = .ok (.ireturn, 1) := by decide +kernel
set_option maxRecDepth 20000 in
theorem ggX6_share_X6_isPart : GoodIn wsX6_share wsX6_isPart := goodIn_r _ [7, 8, 9, 6, 10, 11, 12, 13, 14, 15, 16, 17, 18, 19] (by decide +kernel) (by decide +kernel)
set_option maxRecDepth 20000 in
theorem gX6_share_X6_isPart : GoodIn wsX6_share (va_wsS RX6 222 yX6_isPart wsX6_isPart) := goodIn_app (goodIn_of _ (by decide +kernel)) ggX6_share_X6_isPart
set_option maxRecDepth 20000 in
theorem ggX6_share_X6_roseOf : GoodIn wsX6_share wsX6_roseOf := goodIn_r _ [22] (by decide +kernel) (by decide +kernel)
set_option maxRecDepth 20000 in
theorem gX6_share_X6_roseOf : GoodIn wsX6_share (va_wsS RX6 72 yX6_roseOf wsX6_roseOf) := goodIn_app (goodIn_of _ (by decide +kernel)) ggX6_share_X6_roseOf
set_option maxRecDepth 20000 in
theorem ggX6_share_X4_fillByRank : GoodIn wsX6_share wsX4_fillByRank := goodIn_r _ [27, 28, 29, 30, 31, 32, 33, 26, 34, 35, 36, 37, 38, 39, 40, 41, 42, 43, 44, 45, 6, 46, 47, 48, 49, 50, 51, 52, 53, 54, 55, 56, 57, 58, 59, 60, 61, 62, 73, 74, 75, 76, 77, 78] (by decide +kernel) (by decide +kernel)
set_option maxRecDepth 20000 in
theorem gX6_share_X4_fillByRank : GoodIn wsX6_share (wsV RX6 226 RX4 yX4_fillByRank wsX4_fillByRank) := goodIn_app (goodIn_of _ (by decide +kernel)) ggX6_share_X4_fillByRank
set_option maxRecDepth 20000 in
theorem ggX6_share_X6_partOf : GoodIn wsX6_share wsX6_partOf := goodIn_r _ [46] (by decide +kernel) (by decide +kernel)
set_option maxRecDepth 20000 in
theorem gX6_share_X6_partOf : GoodIn wsX6_share (va_wsS RX6 232 yX6_partOf wsX6_partOf) := goodIn_app (goodIn_of _ (by decide +kernel)) ggX6_share_X6_partOf
theorem dX6_share_0 : decode cX6_share 0 = .ok (.iload_n 1, 1) := by decide +kernel
theorem dX6_share_1 : decode cX6_share 1 = .ok (.iload_n 2, 1) := by decide +kernel
theorem dX6_share_2 : decode cX6_share 2 = .ok (.iload_n 3, 1) := by decide +kernel
theorem dX6_share_3 : decode cX6_share 3 = .ok (.iload 4, 2) := by decide +kernel
theorem dX6_share_5 : decode cX6_share 5 = .ok (.invokestatic 222, 3) := by decide +kernel
theorem dX6_share_8 : decode cX6_share 8 = .ok (.ifCond .ne 5, 3) := by decide +kernel
theorem dX6_share_11 : decode cX6_share 11 = .ok (.iconst (-1), 1) := by decide +kernel
theorem dX6_share_12 : decode cX6_share 12 = .ok (.ireturn, 1) := by decide +kernel
theorem dX6_share_13 : decode cX6_share 13 = .ok (.aload_n 0, 1) := by decide +kernel
theorem dX6_share_14 : decode cX6_share 14 = .ok (.getfield 46, 3) := by decide +kernel
theorem dX6_share_17 : decode cX6_share 17 = .ok (.aload_n 0, 1) := by decide +kernel
theorem dX6_share_18 : decode cX6_share 18 = .ok (.getfield 12, 3) := by decide +kernel
theorem dX6_share_21 : decode cX6_share 21 = .ok (.iload_n 1, 1) := by decide +kernel
theorem dX6_share_22 : decode cX6_share 22 = .ok (.iload_n 2, 1) := by decide +kernel
theorem dX6_share_23 : decode cX6_share 23 = .ok (.invokestatic 72, 3) := by decide +kernel
theorem dX6_share_26 : decode cX6_share 26 = .ok (.invokevirtual 226, 3) := by decide +kernel
theorem dX6_share_29 : decode cX6_share 29 = .ok (.aload_n 0, 1) := by decide +kernel
theorem dX6_share_30 : decode cX6_share 30 = .ok (.getfield 46, 3) := by decide +kernel
theorem dX6_share_33 : decode cX6_share 33 = .ok (.getfield 229, 3) := by decide +kernel
theorem dX6_share_36 : decode cX6_share 36 = .ok (.iload_n 3, 1) := by decide +kernel
theorem dX6_share_37 : decode cX6_share 37 = .ok (.iload 4, 2) := by decide +kernel
theorem dX6_share_39 : decode cX6_share 39 = .ok (.invokestatic 232, 3) := by decide +kernel
theorem dX6_share_42 : decode cX6_share 42 = .ok (.iaload, 1) := by decide +kernel
theorem dX6_share_43 : decode cX6_share 43 = .ok (.ireturn, 1) := by decide +kernel
set_option maxRecDepth 20000 in
theorem ggX6_dealt_X6_isPart : GoodIn wsX6_dealt wsX6_isPart := goodIn_r _ [7, 8, 9, 6, 10, 11, 12, 13, 14, 15, 16, 17, 18, 19] (by decide +kernel) (by decide +kernel)
set_option maxRecDepth 20000 in
theorem gX6_dealt_X6_isPart : GoodIn wsX6_dealt (va_wsS RX6 222 yX6_isPart wsX6_isPart) := goodIn_app (goodIn_of _ (by decide +kernel)) ggX6_dealt_X6_isPart
set_option maxRecDepth 20000 in
theorem ggX6_dealt_X6_roseOf : GoodIn wsX6_dealt wsX6_roseOf := goodIn_r _ [22] (by decide +kernel) (by decide +kernel)
set_option maxRecDepth 20000 in
theorem gX6_dealt_X6_roseOf : GoodIn wsX6_dealt (va_wsS RX6 72 yX6_roseOf wsX6_roseOf) := goodIn_app (goodIn_of _ (by decide +kernel)) ggX6_dealt_X6_roseOf
set_option maxRecDepth 20000 in
theorem ggX6_dealt_X4_fillByDealing : GoodIn wsX6_dealt wsX4_fillByDealing := goodIn_r _ [27, 28, 29, 30, 31, 32, 26, 33, 34, 35, 36, 37, 38, 39, 40, 41, 42, 43, 44, 45, 46, 6, 47, 48, 49, 50, 51, 52, 53, 54, 55, 56, 57, 58, 59, 60, 61, 62, 63, 74, 75, 76, 77, 78, 79] (by decide +kernel) (by decide +kernel)
set_option maxRecDepth 20000 in
theorem gX6_dealt_X4_fillByDealing : GoodIn wsX6_dealt (wsV RX6 235 RX4 yX4_fillByDealing wsX4_fillByDealing) := goodIn_app (goodIn_of _ (by decide +kernel)) ggX6_dealt_X4_fillByDealing
set_option maxRecDepth 20000 in
theorem ggX6_dealt_X6_partOf : GoodIn wsX6_dealt wsX6_partOf := goodIn_r _ [47] (by decide +kernel) (by decide +kernel)
set_option maxRecDepth 20000 in
theorem gX6_dealt_X6_partOf : GoodIn wsX6_dealt (va_wsS RX6 232 yX6_partOf wsX6_partOf) := goodIn_app (goodIn_of _ (by decide +kernel)) ggX6_dealt_X6_partOf
theorem dX6_dealt_0 : decode cX6_dealt 0 = .ok (.iload_n 1, 1) := by decide +kernel
theorem dX6_dealt_1 : decode cX6_dealt 1 = .ok (.iload_n 2, 1) := by decide +kernel
theorem dX6_dealt_2 : decode cX6_dealt 2 = .ok (.iload_n 3, 1) := by decide +kernel
theorem dX6_dealt_3 : decode cX6_dealt 3 = .ok (.iload 4, 2) := by decide +kernel
theorem dX6_dealt_5 : decode cX6_dealt 5 = .ok (.invokestatic 222, 3) := by decide +kernel
theorem dX6_dealt_8 : decode cX6_dealt 8 = .ok (.ifCond .ne 5, 3) := by decide +kernel
theorem dX6_dealt_11 : decode cX6_dealt 11 = .ok (.iconst (-1), 1) := by decide +kernel
theorem dX6_dealt_12 : decode cX6_dealt 12 = .ok (.ireturn, 1) := by decide +kernel
theorem dX6_dealt_13 : decode cX6_dealt 13 = .ok (.aload_n 0, 1) := by decide +kernel
theorem dX6_dealt_14 : decode cX6_dealt 14 = .ok (.getfield 46, 3) := by decide +kernel
theorem dX6_dealt_17 : decode cX6_dealt 17 = .ok (.aload_n 0, 1) := by decide +kernel
theorem dX6_dealt_18 : decode cX6_dealt 18 = .ok (.getfield 12, 3) := by decide +kernel
theorem dX6_dealt_21 : decode cX6_dealt 21 = .ok (.iload_n 1, 1) := by decide +kernel
theorem dX6_dealt_22 : decode cX6_dealt 22 = .ok (.iload_n 2, 1) := by decide +kernel
theorem dX6_dealt_23 : decode cX6_dealt 23 = .ok (.invokestatic 72, 3) := by decide +kernel
theorem dX6_dealt_26 : decode cX6_dealt 26 = .ok (.invokevirtual 235, 3) := by decide +kernel
theorem dX6_dealt_29 : decode cX6_dealt 29 = .ok (.aload_n 0, 1) := by decide +kernel
theorem dX6_dealt_30 : decode cX6_dealt 30 = .ok (.getfield 46, 3) := by decide +kernel
theorem dX6_dealt_33 : decode cX6_dealt 33 = .ok (.getfield 229, 3) := by decide +kernel
theorem dX6_dealt_36 : decode cX6_dealt 36 = .ok (.iload_n 3, 1) := by decide +kernel
theorem dX6_dealt_37 : decode cX6_dealt 37 = .ok (.iload 4, 2) := by decide +kernel
theorem dX6_dealt_39 : decode cX6_dealt 39 = .ok (.invokestatic 232, 3) := by decide +kernel
theorem dX6_dealt_42 : decode cX6_dealt 42 = .ok (.iaload, 1) := by decide +kernel
theorem dX6_dealt_43 : decode cX6_dealt 43 = .ok (.ireturn, 1) := by decide +kernel
set_option maxRecDepth 20000 in
theorem ggX6_quarter_X6_isRose : GoodIn wsX6_quarter wsX6_isRose := goodIn_r _ [4, 5, 6, 3, 7] (by decide +kernel) (by decide +kernel)
set_option maxRecDepth 20000 in
theorem gX6_quarter_X6_isRose : GoodIn wsX6_quarter (va_wsS RX6 60 yX6_isRose wsX6_isRose) := goodIn_app (goodIn_of _ (by decide +kernel)) ggX6_quarter_X6_isRose
set_option maxRecDepth 20000 in
theorem ggX6_quarter_X6_isBetween : GoodIn wsX6_quarter wsX6_isBetween := goodIn_r _ [7] (by decide +kernel) (by decide +kernel)
set_option maxRecDepth 20000 in
theorem gX6_quarter_X6_isBetween : GoodIn wsX6_quarter (va_wsS RX6 68 yX6_isBetween wsX6_isBetween) := goodIn_app (goodIn_of _ (by decide +kernel)) ggX6_quarter_X6_isBetween
set_option maxRecDepth 20000 in
theorem ggX6_quarter_X6_roseOf : GoodIn wsX6_quarter wsX6_roseOf := goodIn_r _ [10] (by decide +kernel) (by decide +kernel)
set_option maxRecDepth 20000 in
theorem gX6_quarter_X6_roseOf : GoodIn wsX6_quarter (va_wsS RX6 72 yX6_roseOf wsX6_roseOf) := goodIn_app (goodIn_of _ (by decide +kernel)) ggX6_quarter_X6_roseOf
set_option maxRecDepth 20000 in
theorem ggX6_quarter_X6_hoursFrom : GoodIn wsX6_quarter wsX6_hoursFrom := goodIn_r _ [14, 15, 16, 17, 18, 19, 20, 21, 22, 23, 24, 25, 26, 27, 28, 29, 30, 31, 32, 33, 34, 35, 36, 37, 38, 39, 40] (by decide +kernel) (by decide +kernel)
set_option maxRecDepth 20000 in
theorem gX6_quarter_X6_hoursFrom : GoodIn wsX6_quarter (wsV RX6 238 RX6 yX6_hoursFrom wsX6_hoursFrom) := goodIn_app (goodIn_of _ (by decide +kernel)) ggX6_quarter_X6_hoursFrom
theorem dX6_quarter_0 : decode cX6_quarter 0 = .ok (.iload_n 1, 1) := by decide +kernel
theorem dX6_quarter_1 : decode cX6_quarter 1 = .ok (.iload_n 2, 1) := by decide +kernel
theorem dX6_quarter_2 : decode cX6_quarter 2 = .ok (.invokestatic 60, 3) := by decide +kernel
theorem dX6_quarter_5 : decode cX6_quarter 5 = .ok (.ifCond .eq 12, 3) := by decide +kernel
theorem dX6_quarter_8 : decode cX6_quarter 8 = .ok (.iload_n 3, 1) := by decide +kernel
theorem dX6_quarter_9 : decode cX6_quarter 9 = .ok (.iconst 0, 1) := by decide +kernel
theorem dX6_quarter_10 : decode cX6_quarter 10 = .ok (.iconst 3, 1) := by decide +kernel
theorem dX6_quarter_11 : decode cX6_quarter 11 = .ok (.invokestatic 68, 3) := by decide +kernel
theorem dX6_quarter_14 : decode cX6_quarter 14 = .ok (.ifCond .ne 5, 3) := by decide +kernel
theorem dX6_quarter_17 : decode cX6_quarter 17 = .ok (.iconst (-1), 1) := by decide +kernel
theorem dX6_quarter_18 : decode cX6_quarter 18 = .ok (.ireturn, 1) := by decide +kernel
theorem dX6_quarter_19 : decode cX6_quarter 19 = .ok (.iload_n 1, 1) := by decide +kernel
theorem dX6_quarter_20 : decode cX6_quarter 20 = .ok (.iload_n 2, 1) := by decide +kernel
theorem dX6_quarter_21 : decode cX6_quarter 21 = .ok (.invokestatic 72, 3) := by decide +kernel
theorem dX6_quarter_24 : decode cX6_quarter 24 = .ok (.istore 4, 2) := by decide +kernel
theorem dX6_quarter_26 : decode cX6_quarter 26 = .ok (.iload_n 3, 1) := by decide +kernel
theorem dX6_quarter_27 : decode cX6_quarter 27 = .ok (.iconst 4, 1) := by decide +kernel
theorem dX6_quarter_28 : decode cX6_quarter 28 = .ok (.imul, 1) := by decide +kernel
theorem dX6_quarter_29 : decode cX6_quarter 29 = .ok (.istore 5, 2) := by decide +kernel
theorem dX6_quarter_31 : decode cX6_quarter 31 = .ok (.aload_n 0, 1) := by decide +kernel
theorem dX6_quarter_32 : decode cX6_quarter 32 = .ok (.iload 4, 2) := by decide +kernel
theorem dX6_quarter_34 : decode cX6_quarter 34 = .ok (.iload 5, 2) := by decide +kernel
theorem dX6_quarter_36 : decode cX6_quarter 36 = .ok (.iconst 1, 1) := by decide +kernel
theorem dX6_quarter_37 : decode cX6_quarter 37 = .ok (.isub, 1) := by decide +kernel
theorem dX6_quarter_38 : decode cX6_quarter 38 = .ok (.invokevirtual 238, 3) := by decide +kernel
theorem dX6_quarter_41 : decode cX6_quarter 41 = .ok (.aload_n 0, 1) := by decide +kernel
theorem dX6_quarter_42 : decode cX6_quarter 42 = .ok (.iload 4, 2) := by decide +kernel
theorem dX6_quarter_44 : decode cX6_quarter 44 = .ok (.iload 5, 2) := by decide +kernel
theorem dX6_quarter_46 : decode cX6_quarter 46 = .ok (.invokevirtual 238, 3) := by decide +kernel
theorem dX6_quarter_49 : decode cX6_quarter 49 = .ok (.iadd, 1) := by decide +kernel
theorem dX6_quarter_50 : decode cX6_quarter 50 = .ok (.aload_n 0, 1) := by decide +kernel
theorem dX6_quarter_51 : decode cX6_quarter 51 = .ok (.iload 4, 2) := by decide +kernel
theorem dX6_quarter_53 : decode cX6_quarter 53 = .ok (.iload 5, 2) := by decide +kernel
theorem dX6_quarter_55 : decode cX6_quarter 55 = .ok (.iconst 1, 1) := by decide +kernel
theorem dX6_quarter_56 : decode cX6_quarter 56 = .ok (.iadd, 1) := by decide +kernel
theorem dX6_quarter_57 : decode cX6_quarter 57 = .ok (.invokevirtual 238, 3) := by decide +kernel
theorem dX6_quarter_60 : decode cX6_quarter 60 = .ok (.iadd, 1) := by decide +kernel
theorem dX6_quarter_61 : decode cX6_quarter 61 = .ok (.istore 6, 2) := by decide +kernel
theorem dX6_quarter_63 : decode cX6_quarter 63 = .ok (.aload_n 0, 1) := by decide +kernel
theorem dX6_quarter_64 : decode cX6_quarter 64 = .ok (.iload 4, 2) := by decide +kernel
theorem dX6_quarter_66 : decode cX6_quarter 66 = .ok (.iload 5, 2) := by decide +kernel
theorem dX6_quarter_68 : decode cX6_quarter 68 = .ok (.iconst 2, 1) := by decide +kernel
theorem dX6_quarter_69 : decode cX6_quarter 69 = .ok (.isub, 1) := by decide +kernel
theorem dX6_quarter_70 : decode cX6_quarter 70 = .ok (.invokevirtual 238, 3) := by decide +kernel
theorem dX6_quarter_73 : decode cX6_quarter 73 = .ok (.aload_n 0, 1) := by decide +kernel
theorem dX6_quarter_74 : decode cX6_quarter 74 = .ok (.iload 4, 2) := by decide +kernel
theorem dX6_quarter_76 : decode cX6_quarter 76 = .ok (.iload 5, 2) := by decide +kernel
theorem dX6_quarter_78 : decode cX6_quarter 78 = .ok (.iconst 2, 1) := by decide +kernel
theorem dX6_quarter_79 : decode cX6_quarter 79 = .ok (.iadd, 1) := by decide +kernel
theorem dX6_quarter_80 : decode cX6_quarter 80 = .ok (.invokevirtual 238, 3) := by decide +kernel
theorem dX6_quarter_83 : decode cX6_quarter 83 = .ok (.iadd, 1) := by decide +kernel
theorem dX6_quarter_84 : decode cX6_quarter 84 = .ok (.istore 7, 2) := by decide +kernel
theorem dX6_quarter_86 : decode cX6_quarter 86 = .ok (.iload 6, 2) := by decide +kernel
theorem dX6_quarter_88 : decode cX6_quarter 88 = .ok (.iload 7, 2) := by decide +kernel
theorem dX6_quarter_90 : decode cX6_quarter 90 = .ok (.iconst 2, 1) := by decide +kernel
theorem dX6_quarter_91 : decode cX6_quarter 91 = .ok (.idiv, 1) := by decide +kernel
theorem dX6_quarter_92 : decode cX6_quarter 92 = .ok (.iadd, 1) := by decide +kernel
theorem dX6_quarter_93 : decode cX6_quarter 93 = .ok (.ireturn, 1) := by decide +kernel
set_option maxRecDepth 20000 in
theorem ggX6_excess_X6_isRose : GoodIn wsX6_excess wsX6_isRose := goodIn_r _ [8, 9, 10, 7, 11] (by decide +kernel) (by decide +kernel)
set_option maxRecDepth 20000 in
theorem gX6_excess_X6_isRose : GoodIn wsX6_excess (va_wsS RX6 60 yX6_isRose wsX6_isRose) := goodIn_app (goodIn_of _ (by decide +kernel)) ggX6_excess_X6_isRose
set_option maxRecDepth 20000 in
theorem ggX6_excess_X6_isDirection : GoodIn wsX6_excess wsX6_isDirection := goodIn_r _ [14, 9, 10, 7, 11] (by decide +kernel) (by decide +kernel)
set_option maxRecDepth 20000 in
theorem gX6_excess_X6_isDirection : GoodIn wsX6_excess (va_wsS RX6 64 yX6_isDirection wsX6_isDirection) := goodIn_app (goodIn_of _ (by decide +kernel)) ggX6_excess_X6_isDirection
set_option maxRecDepth 20000 in
theorem ggX6_excess_X6_roseOf : GoodIn wsX6_excess wsX6_roseOf := goodIn_r _ [17] (by decide +kernel) (by decide +kernel)
set_option maxRecDepth 20000 in
theorem gX6_excess_X6_roseOf : GoodIn wsX6_excess (va_wsS RX6 72 yX6_roseOf wsX6_roseOf) := goodIn_app (goodIn_of _ (by decide +kernel)) ggX6_excess_X6_roseOf
set_option maxRecDepth 20000 in
theorem ggX6_excess_X6_hoursFrom : GoodIn wsX6_excess wsX6_hoursFrom := goodIn_r _ [21, 22, 23, 24, 25, 26, 27, 28, 29, 30, 31, 32, 33, 34, 35, 36, 37, 38, 39, 40, 41, 42, 43, 44, 45, 46, 47] (by decide +kernel) (by decide +kernel)
set_option maxRecDepth 20000 in
theorem gX6_excess_X6_hoursFrom : GoodIn wsX6_excess (wsV RX6 238 RX6 yX6_hoursFrom wsX6_hoursFrom) := goodIn_app (goodIn_of _ (by decide +kernel)) ggX6_excess_X6_hoursFrom
theorem dX6_excess_0 : decode cX6_excess 0 = .ok (.iload_n 1, 1) := by decide +kernel
theorem dX6_excess_1 : decode cX6_excess 1 = .ok (.iload_n 2, 1) := by decide +kernel
theorem dX6_excess_2 : decode cX6_excess 2 = .ok (.invokestatic 60, 3) := by decide +kernel
theorem dX6_excess_5 : decode cX6_excess 5 = .ok (.ifCond .eq 10, 3) := by decide +kernel
theorem dX6_excess_8 : decode cX6_excess 8 = .ok (.iload_n 3, 1) := by decide +kernel
theorem dX6_excess_9 : decode cX6_excess 9 = .ok (.invokestatic 64, 3) := by decide +kernel
theorem dX6_excess_12 : decode cX6_excess 12 = .ok (.ifCond .ne 5, 3) := by decide +kernel
theorem dX6_excess_15 : decode cX6_excess 15 = .ok (.iconst (-1), 1) := by decide +kernel
theorem dX6_excess_16 : decode cX6_excess 16 = .ok (.ireturn, 1) := by decide +kernel
theorem dX6_excess_17 : decode cX6_excess 17 = .ok (.iload_n 1, 1) := by decide +kernel
theorem dX6_excess_18 : decode cX6_excess 18 = .ok (.iload_n 2, 1) := by decide +kernel
theorem dX6_excess_19 : decode cX6_excess 19 = .ok (.invokestatic 72, 3) := by decide +kernel
theorem dX6_excess_22 : decode cX6_excess 22 = .ok (.istore 4, 2) := by decide +kernel
theorem dX6_excess_24 : decode cX6_excess 24 = .ok (.iload_n 3, 1) := by decide +kernel
theorem dX6_excess_25 : decode cX6_excess 25 = .ok (.bipush 8, 2) := by decide +kernel
theorem dX6_excess_27 : decode cX6_excess 27 = .ok (.iadd, 1) := by decide +kernel
theorem dX6_excess_28 : decode cX6_excess 28 = .ok (.istore 5, 2) := by decide +kernel
theorem dX6_excess_30 : decode cX6_excess 30 = .ok (.iconst 0, 1) := by decide +kernel
theorem dX6_excess_31 : decode cX6_excess 31 = .ok (.aload_n 0, 1) := by decide +kernel
theorem dX6_excess_32 : decode cX6_excess 32 = .ok (.iload 4, 2) := by decide +kernel
theorem dX6_excess_34 : decode cX6_excess 34 = .ok (.iload_n 3, 1) := by decide +kernel
theorem dX6_excess_35 : decode cX6_excess 35 = .ok (.invokevirtual 238, 3) := by decide +kernel
theorem dX6_excess_38 : decode cX6_excess 38 = .ok (.aload_n 0, 1) := by decide +kernel
theorem dX6_excess_39 : decode cX6_excess 39 = .ok (.iload 4, 2) := by decide +kernel
theorem dX6_excess_41 : decode cX6_excess 41 = .ok (.iload 5, 2) := by decide +kernel
theorem dX6_excess_43 : decode cX6_excess 43 = .ok (.invokevirtual 238, 3) := by decide +kernel
theorem dX6_excess_46 : decode cX6_excess 46 = .ok (.isub, 1) := by decide +kernel
theorem dX6_excess_47 : decode cX6_excess 47 = .ok (.invokestatic 241, 3) := by decide +kernel
theorem dX6_excess_50 : decode cX6_excess 50 = .ok (.ireturn, 1) := by decide +kernel
set_option maxRecDepth 20000 in
theorem ggX6_unlike_X6_isRose : GoodIn wsX6_unlike wsX6_isRose := goodIn_r _ [12, 13, 14, 11, 15] (by decide +kernel) (by decide +kernel)
set_option maxRecDepth 20000 in
theorem gX6_unlike_X6_isRose : GoodIn wsX6_unlike (va_wsS RX6 60 yX6_isRose wsX6_isRose) := goodIn_app (goodIn_of _ (by decide +kernel)) ggX6_unlike_X6_isRose
set_option maxRecDepth 20000 in
theorem ggX6_unlike_X6_roseOf : GoodIn wsX6_unlike wsX6_roseOf := goodIn_r _ [18] (by decide +kernel) (by decide +kernel)
set_option maxRecDepth 20000 in
theorem gX6_unlike_X6_roseOf : GoodIn wsX6_unlike (va_wsS RX6 72 yX6_roseOf wsX6_roseOf) := goodIn_app (goodIn_of _ (by decide +kernel)) ggX6_unlike_X6_roseOf
set_option maxRecDepth 20000 in
theorem ggX6_unlike_X4_fillByRank : GoodIn wsX6_unlike wsX4_fillByRank := goodIn_r _ [23, 24, 25, 26, 27, 28, 29, 22, 30, 31, 32, 33, 34, 35, 36, 37, 38, 39, 40, 41, 11, 42, 43, 44, 45, 46, 47, 48, 49, 50, 51, 52, 53, 54, 55, 56, 57, 58, 68, 69, 70, 71, 72, 73] (by decide +kernel) (by decide +kernel)
set_option maxRecDepth 20000 in
theorem gX6_unlike_X4_fillByRank : GoodIn wsX6_unlike (wsV RX6 226 RX4 yX4_fillByRank wsX4_fillByRank) := goodIn_app (goodIn_of _ (by decide +kernel)) ggX6_unlike_X4_fillByRank
theorem dX6_unlike_0 : decode cX6_unlike 0 = .ok (.iload_n 1, 1) := by decide +kernel
theorem dX6_unlike_1 : decode cX6_unlike 1 = .ok (.iload_n 3, 1) := by decide +kernel
theorem dX6_unlike_2 : decode cX6_unlike 2 = .ok (.invokestatic 60, 3) := by decide +kernel
theorem dX6_unlike_5 : decode cX6_unlike 5 = .ok (.ifCond .eq 11, 3) := by decide +kernel
theorem dX6_unlike_8 : decode cX6_unlike 8 = .ok (.iload_n 2, 1) := by decide +kernel
theorem dX6_unlike_9 : decode cX6_unlike 9 = .ok (.iload_n 3, 1) := by decide +kernel
theorem dX6_unlike_10 : decode cX6_unlike 10 = .ok (.invokestatic 60, 3) := by decide +kernel
theorem dX6_unlike_13 : decode cX6_unlike 13 = .ok (.ifCond .ne 5, 3) := by decide +kernel
theorem dX6_unlike_16 : decode cX6_unlike 16 = .ok (.iconst (-1), 1) := by decide +kernel
theorem dX6_unlike_17 : decode cX6_unlike 17 = .ok (.ireturn, 1) := by decide +kernel
theorem dX6_unlike_18 : decode cX6_unlike 18 = .ok (.iload_n 1, 1) := by decide +kernel
theorem dX6_unlike_19 : decode cX6_unlike 19 = .ok (.iload_n 2, 1) := by decide +kernel
theorem dX6_unlike_20 : decode cX6_unlike 20 = .ok (.if_icmp .ne 6, 3) := by decide +kernel
theorem dX6_unlike_23 : decode cX6_unlike 23 = .ok (.bipush (-2), 2) := by decide +kernel
theorem dX6_unlike_25 : decode cX6_unlike 25 = .ok (.ireturn, 1) := by decide +kernel
theorem dX6_unlike_26 : decode cX6_unlike 26 = .ok (.aload_n 0, 1) := by decide +kernel
theorem dX6_unlike_27 : decode cX6_unlike 27 = .ok (.getfield 46, 3) := by decide +kernel
theorem dX6_unlike_30 : decode cX6_unlike 30 = .ok (.aload_n 0, 1) := by decide +kernel
theorem dX6_unlike_31 : decode cX6_unlike 31 = .ok (.getfield 12, 3) := by decide +kernel
theorem dX6_unlike_34 : decode cX6_unlike 34 = .ok (.iload_n 1, 1) := by decide +kernel
theorem dX6_unlike_35 : decode cX6_unlike 35 = .ok (.iload_n 3, 1) := by decide +kernel
theorem dX6_unlike_36 : decode cX6_unlike 36 = .ok (.invokestatic 72, 3) := by decide +kernel
theorem dX6_unlike_39 : decode cX6_unlike 39 = .ok (.invokevirtual 226, 3) := by decide +kernel
theorem dX6_unlike_42 : decode cX6_unlike 42 = .ok (.aload_n 0, 1) := by decide +kernel
theorem dX6_unlike_43 : decode cX6_unlike 43 = .ok (.getfield 50, 3) := by decide +kernel
theorem dX6_unlike_46 : decode cX6_unlike 46 = .ok (.aload_n 0, 1) := by decide +kernel
theorem dX6_unlike_47 : decode cX6_unlike 47 = .ok (.getfield 12, 3) := by decide +kernel
theorem dX6_unlike_50 : decode cX6_unlike 50 = .ok (.iload_n 2, 1) := by decide +kernel
theorem dX6_unlike_51 : decode cX6_unlike 51 = .ok (.iload_n 3, 1) := by decide +kernel
theorem dX6_unlike_52 : decode cX6_unlike 52 = .ok (.invokestatic 72, 3) := by decide +kernel
theorem dX6_unlike_55 : decode cX6_unlike 55 = .ok (.invokevirtual 226, 3) := by decide +kernel
theorem dX6_unlike_58 : decode cX6_unlike 58 = .ok (.iconst 0, 1) := by decide +kernel
theorem dX6_unlike_59 : decode cX6_unlike 59 = .ok (.istore 4, 2) := by decide +kernel
theorem dX6_unlike_61 : decode cX6_unlike 61 = .ok (.iconst 0, 1) := by decide +kernel
theorem dX6_unlike_62 : decode cX6_unlike 62 = .ok (.istore 5, 2) := by decide +kernel
theorem dX6_unlike_64 : decode cX6_unlike 64 = .ok (.iload 5, 2) := by decide +kernel
theorem dX6_unlike_66 : decode cX6_unlike 66 = .ok (.bipush 48, 2) := by decide +kernel
theorem dX6_unlike_68 : decode cX6_unlike 68 = .ok (.if_icmp .ge 38, 3) := by decide +kernel
theorem dX6_unlike_71 : decode cX6_unlike 71 = .ok (.iload 4, 2) := by decide +kernel
theorem dX6_unlike_73 : decode cX6_unlike 73 = .ok (.aload_n 0, 1) := by decide +kernel
theorem dX6_unlike_74 : decode cX6_unlike 74 = .ok (.getfield 46, 3) := by decide +kernel
theorem dX6_unlike_77 : decode cX6_unlike 77 = .ok (.getfield 229, 3) := by decide +kernel
theorem dX6_unlike_80 : decode cX6_unlike 80 = .ok (.iload 5, 2) := by decide +kernel
theorem dX6_unlike_82 : decode cX6_unlike 82 = .ok (.iaload, 1) := by decide +kernel
theorem dX6_unlike_83 : decode cX6_unlike 83 = .ok (.aload_n 0, 1) := by decide +kernel
theorem dX6_unlike_84 : decode cX6_unlike 84 = .ok (.getfield 50, 3) := by decide +kernel
theorem dX6_unlike_87 : decode cX6_unlike 87 = .ok (.getfield 229, 3) := by decide +kernel
theorem dX6_unlike_90 : decode cX6_unlike 90 = .ok (.iload 5, 2) := by decide +kernel
theorem dX6_unlike_92 : decode cX6_unlike 92 = .ok (.iaload, 1) := by decide +kernel
theorem dX6_unlike_93 : decode cX6_unlike 93 = .ok (.isub, 1) := by decide +kernel
theorem dX6_unlike_94 : decode cX6_unlike 94 = .ok (.invokestatic 246, 3) := by decide +kernel
theorem dX6_unlike_97 : decode cX6_unlike 97 = .ok (.iadd, 1) := by decide +kernel
theorem dX6_unlike_98 : decode cX6_unlike 98 = .ok (.istore 4, 2) := by decide +kernel
theorem dX6_unlike_100 : decode cX6_unlike 100 = .ok (.iinc 5 1, 3) := by decide +kernel
theorem dX6_unlike_103 : decode cX6_unlike 103 = .ok (.goto (-39), 3) := by decide +kernel
theorem dX6_unlike_106 : decode cX6_unlike 106 = .ok (.iload 4, 2) := by decide +kernel
theorem dX6_unlike_108 : decode cX6_unlike 108 = .ok (.ireturn, 1) := by decide +kernel
set_option maxRecDepth 20000 in
theorem ggX6_seasonOf_X6_isBetween : GoodIn wsX6_seasonOf wsX6_isBetween := goodIn_r _ [5] (by decide +kernel) (by decide +kernel)
set_option maxRecDepth 20000 in
theorem gX6_seasonOf_X6_isBetween : GoodIn wsX6_seasonOf (va_wsS RX6 68 yX6_isBetween wsX6_isBetween) := goodIn_app (goodIn_of _ (by decide +kernel)) ggX6_seasonOf_X6_isBetween
set_option maxRecDepth 20000 in
theorem ggX6_seasonOf_X6_isClass : GoodIn wsX6_seasonOf wsX6_isClass := goodIn_r _ [8, 2, 3, 4, 5] (by decide +kernel) (by decide +kernel)
set_option maxRecDepth 20000 in
theorem gX6_seasonOf_X6_isClass : GoodIn wsX6_seasonOf (va_wsS RX6 216 yX6_isClass wsX6_isClass) := goodIn_app (goodIn_of _ (by decide +kernel)) ggX6_seasonOf_X6_isClass
set_option maxRecDepth 20000 in
theorem ggX6_seasonOf_X6_roseOf : GoodIn wsX6_seasonOf wsX6_roseOf := goodIn_r _ [11] (by decide +kernel) (by decide +kernel)
set_option maxRecDepth 20000 in
theorem gX6_seasonOf_X6_roseOf : GoodIn wsX6_seasonOf (va_wsS RX6 72 yX6_roseOf wsX6_roseOf) := goodIn_app (goodIn_of _ (by decide +kernel)) ggX6_seasonOf_X6_roseOf
set_option maxRecDepth 20000 in
theorem ggX6_seasonOf_X0_classHours : GoodIn wsX6_seasonOf wsX0_classHours := goodIn_r _ [16, 17, 18, 19, 15, 20, 21, 22, 23, 24, 25, 26, 27, 28, 29, 39, 40] (by decide +kernel) (by decide +kernel)
set_option maxRecDepth 20000 in
theorem gX6_seasonOf_X0_classHours : GoodIn wsX6_seasonOf (wsV RX6 207 RX0 yX0_classHours wsX0_classHours) := goodIn_app (goodIn_of _ (by decide +kernel)) ggX6_seasonOf_X0_classHours
theorem dX6_seasonOf_0 : decode cX6_seasonOf 0 = .ok (.iload_n 1, 1) := by decide +kernel
theorem dX6_seasonOf_1 : decode cX6_seasonOf 1 = .ok (.iconst 0, 1) := by decide +kernel
theorem dX6_seasonOf_2 : decode cX6_seasonOf 2 = .ok (.iconst 3, 1) := by decide +kernel
theorem dX6_seasonOf_3 : decode cX6_seasonOf 3 = .ok (.invokestatic 68, 3) := by decide +kernel
theorem dX6_seasonOf_6 : decode cX6_seasonOf 6 = .ok (.ifCond .eq 10, 3) := by decide +kernel
theorem dX6_seasonOf_9 : decode cX6_seasonOf 9 = .ok (.iload_n 2, 1) := by decide +kernel
theorem dX6_seasonOf_10 : decode cX6_seasonOf 10 = .ok (.invokestatic 216, 3) := by decide +kernel
theorem dX6_seasonOf_13 : decode cX6_seasonOf 13 = .ok (.ifCond .ne 5, 3) := by decide +kernel
theorem dX6_seasonOf_16 : decode cX6_seasonOf 16 = .ok (.iconst (-1), 1) := by decide +kernel
theorem dX6_seasonOf_17 : decode cX6_seasonOf 17 = .ok (.ireturn, 1) := by decide +kernel
theorem dX6_seasonOf_18 : decode cX6_seasonOf 18 = .ok (.iconst 0, 1) := by decide +kernel
theorem dX6_seasonOf_19 : decode cX6_seasonOf 19 = .ok (.istore_n 3, 1) := by decide +kernel
theorem dX6_seasonOf_20 : decode cX6_seasonOf 20 = .ok (.bipush (-5), 2) := by decide +kernel
theorem dX6_seasonOf_22 : decode cX6_seasonOf 22 = .ok (.istore 4, 2) := by decide +kernel
theorem dX6_seasonOf_24 : decode cX6_seasonOf 24 = .ok (.iconst 0, 1) := by decide +kernel
theorem dX6_seasonOf_25 : decode cX6_seasonOf 25 = .ok (.istore 5, 2) := by decide +kernel
theorem dX6_seasonOf_27 : decode cX6_seasonOf 27 = .ok (.iload 5, 2) := by decide +kernel
theorem dX6_seasonOf_29 : decode cX6_seasonOf 29 = .ok (.iconst 4, 1) := by decide +kernel
theorem dX6_seasonOf_30 : decode cX6_seasonOf 30 = .ok (.if_icmp .ge 38, 3) := by decide +kernel
theorem dX6_seasonOf_33 : decode cX6_seasonOf 33 = .ok (.aload_n 0, 1) := by decide +kernel
theorem dX6_seasonOf_34 : decode cX6_seasonOf 34 = .ok (.getfield 12, 3) := by decide +kernel
theorem dX6_seasonOf_37 : decode cX6_seasonOf 37 = .ok (.iload_n 1, 1) := by decide +kernel
theorem dX6_seasonOf_38 : decode cX6_seasonOf 38 = .ok (.iload 5, 2) := by decide +kernel
theorem dX6_seasonOf_40 : decode cX6_seasonOf 40 = .ok (.invokestatic 72, 3) := by decide +kernel
theorem dX6_seasonOf_43 : decode cX6_seasonOf 43 = .ok (.iload_n 2, 1) := by decide +kernel
theorem dX6_seasonOf_44 : decode cX6_seasonOf 44 = .ok (.invokevirtual 207, 3) := by decide +kernel
theorem dX6_seasonOf_47 : decode cX6_seasonOf 47 = .ok (.istore 6, 2) := by decide +kernel
theorem dX6_seasonOf_49 : decode cX6_seasonOf 49 = .ok (.iload 6, 2) := by decide +kernel
theorem dX6_seasonOf_51 : decode cX6_seasonOf 51 = .ok (.iload_n 3, 1) := by decide +kernel
theorem dX6_seasonOf_52 : decode cX6_seasonOf 52 = .ok (.if_icmp .le 10, 3) := by decide +kernel
theorem dX6_seasonOf_55 : decode cX6_seasonOf 55 = .ok (.iload 6, 2) := by decide +kernel
theorem dX6_seasonOf_57 : decode cX6_seasonOf 57 = .ok (.istore_n 3, 1) := by decide +kernel
theorem dX6_seasonOf_58 : decode cX6_seasonOf 58 = .ok (.iload 5, 2) := by decide +kernel
theorem dX6_seasonOf_60 : decode cX6_seasonOf 60 = .ok (.istore 4, 2) := by decide +kernel
theorem dX6_seasonOf_62 : decode cX6_seasonOf 62 = .ok (.iinc 5 1, 3) := by decide +kernel
theorem dX6_seasonOf_65 : decode cX6_seasonOf 65 = .ok (.goto (-38), 3) := by decide +kernel
theorem dX6_seasonOf_68 : decode cX6_seasonOf 68 = .ok (.iload 4, 2) := by decide +kernel
theorem dX6_seasonOf_70 : decode cX6_seasonOf 70 = .ok (.ireturn, 1) := by decide +kernel
set_option maxRecDepth 20000 in
theorem ggX6_plate_X6_isRose : GoodIn wsX6_plate wsX6_isRose := goodIn_r _ [8, 9, 10, 7, 11] (by decide +kernel) (by decide +kernel)
set_option maxRecDepth 20000 in
theorem gX6_plate_X6_isRose : GoodIn wsX6_plate (va_wsS RX6 60 yX6_isRose wsX6_isRose) := goodIn_app (goodIn_of _ (by decide +kernel)) ggX6_plate_X6_isRose
set_option maxRecDepth 20000 in
theorem ggX6_plate_X6_roseOf : GoodIn wsX6_plate wsX6_roseOf := goodIn_r _ [14] (by decide +kernel) (by decide +kernel)
set_option maxRecDepth 20000 in
theorem gX6_plate_X6_roseOf : GoodIn wsX6_plate (va_wsS RX6 72 yX6_roseOf wsX6_roseOf) := goodIn_app (goodIn_of _ (by decide +kernel)) ggX6_plate_X6_roseOf
set_option maxRecDepth 20000 in
theorem ggX6_plate_X0_circle : GoodIn wsX6_plate wsX0_circle := goodIn_r _ [19, 20, 124, 125] (by decide +kernel) (by decide +kernel)
set_option maxRecDepth 20000 in
theorem gX6_plate_X0_circle : GoodIn wsX6_plate (wsV RX6 249 RX0 yX0_circle wsX0_circle) := goodIn_app (goodIn_of _ (by decide +kernel)) ggX6_plate_X0_circle
set_option maxRecDepth 20000 in
theorem ggX6_plate_X0_scrapes : GoodIn wsX6_plate wsX0_scrapes := goodIn_r _ [24, 20, 124, 125] (by decide +kernel) (by decide +kernel)
set_option maxRecDepth 20000 in
theorem gX6_plate_X0_scrapes : GoodIn wsX6_plate (wsV RX6 137 RX0 yX0_scrapes wsX0_scrapes) := goodIn_app (goodIn_of _ (by decide +kernel)) ggX6_plate_X0_scrapes
set_option maxRecDepth 20000 in
theorem ggX6_plate_X0_petalsCut : GoodIn wsX6_plate wsX0_petalsCut := goodIn_r _ [28, 29, 30, 31, 18, 32, 20, 124, 125] (by decide +kernel) (by decide +kernel)
set_option maxRecDepth 20000 in
theorem gX6_plate_X0_petalsCut : GoodIn wsX6_plate (wsV RX6 252 RX0 yX0_petalsCut wsX0_petalsCut) := goodIn_app (goodIn_of _ (by decide +kernel)) ggX6_plate_X0_petalsCut
set_option maxRecDepth 20000 in
theorem ggX6_plate_X0_longestPetal : GoodIn wsX6_plate wsX0_longestPetal := goodIn_r _ [36, 37, 38, 39, 40, 29, 30, 31, 18, 32, 20, 124, 125] (by decide +kernel) (by decide +kernel)
set_option maxRecDepth 20000 in
theorem gX6_plate_X0_longestPetal : GoodIn wsX6_plate (wsV RX6 255 RX0 yX0_longestPetal wsX0_longestPetal) := goodIn_app (goodIn_of _ (by decide +kernel)) ggX6_plate_X0_longestPetal
set_option maxRecDepth 20000 in
theorem ggX6_plate_X1_measure : GoodIn wsX6_plate wsX1_measure := goodIn_r _ [45, 46, 47, 48, 49, 50, 51, 52, 53, 54, 55, 56, 57, 58, 59, 60, 61, 62, 63, 64, 65, 18, 66, 20, 67, 68, 69, 70, 71, 7, 72, 73, 74, 75, 76, 77, 78, 79, 80, 81, 82, 83, 84, 85, 86, 87, 88, 89, 30, 31, 32, 90, 91, 92, 44, 93, 94, 95, 39, 96, 97, 16, 17, 19, 98, 99, 100, 101, 102, 103, 104, 105, 106, 107, 108, 109, 110, 120, 121, 122, 123, 126, 127, 128, 129, 124, 125] (by decide +kernel) (by decide +kernel)
set_option maxRecDepth 20000 in
theorem gX6_plate_X1_measure : GoodIn wsX6_plate (wsV RX6 258 RX1 yX1_measure wsX1_measure) := goodIn_app (goodIn_of _ (by decide +kernel)) ggX6_plate_X1_measure
theorem dX6_plate_0 : decode cX6_plate 0 = .ok (.iload_n 1, 1) := by decide +kernel
theorem dX6_plate_1 : decode cX6_plate 1 = .ok (.iload_n 2, 1) := by decide +kernel
theorem dX6_plate_2 : decode cX6_plate 2 = .ok (.invokestatic 60, 3) := by decide +kernel
theorem dX6_plate_5 : decode cX6_plate 5 = .ok (.ifCond .ne 5, 3) := by decide +kernel
theorem dX6_plate_8 : decode cX6_plate 8 = .ok (.iconst (-1), 1) := by decide +kernel
theorem dX6_plate_9 : decode cX6_plate 9 = .ok (.ireturn, 1) := by decide +kernel
theorem dX6_plate_10 : decode cX6_plate 10 = .ok (.iload_n 1, 1) := by decide +kernel
theorem dX6_plate_11 : decode cX6_plate 11 = .ok (.iload_n 2, 1) := by decide +kernel
theorem dX6_plate_12 : decode cX6_plate 12 = .ok (.invokestatic 72, 3) := by decide +kernel
theorem dX6_plate_15 : decode cX6_plate 15 = .ok (.istore 4, 2) := by decide +kernel
theorem dX6_plate_17 : decode cX6_plate 17 = .ok (.iload_n 3, 1) := by decide +kernel
theorem dX6_plate_18 : decode cX6_plate 18 = .ok (.tableswitch 120 0 5 #[38, 48, 58, 68, 78, 99], 38) := by decide +kernel
theorem dX6_plate_56 : decode cX6_plate 56 = .ok (.aload_n 0, 1) := by decide +kernel
theorem dX6_plate_57 : decode cX6_plate 57 = .ok (.getfield 12, 3) := by decide +kernel
theorem dX6_plate_60 : decode cX6_plate 60 = .ok (.iload 4, 2) := by decide +kernel
theorem dX6_plate_62 : decode cX6_plate 62 = .ok (.invokevirtual 249, 3) := by decide +kernel
theorem dX6_plate_65 : decode cX6_plate 65 = .ok (.ireturn, 1) := by decide +kernel
theorem dX6_plate_66 : decode cX6_plate 66 = .ok (.aload_n 0, 1) := by decide +kernel
theorem dX6_plate_67 : decode cX6_plate 67 = .ok (.getfield 12, 3) := by decide +kernel
theorem dX6_plate_70 : decode cX6_plate 70 = .ok (.iload 4, 2) := by decide +kernel
theorem dX6_plate_72 : decode cX6_plate 72 = .ok (.invokevirtual 137, 3) := by decide +kernel
theorem dX6_plate_75 : decode cX6_plate 75 = .ok (.ireturn, 1) := by decide +kernel
theorem dX6_plate_76 : decode cX6_plate 76 = .ok (.aload_n 0, 1) := by decide +kernel
theorem dX6_plate_77 : decode cX6_plate 77 = .ok (.getfield 12, 3) := by decide +kernel
theorem dX6_plate_80 : decode cX6_plate 80 = .ok (.iload 4, 2) := by decide +kernel
theorem dX6_plate_82 : decode cX6_plate 82 = .ok (.invokevirtual 252, 3) := by decide +kernel
theorem dX6_plate_85 : decode cX6_plate 85 = .ok (.ireturn, 1) := by decide +kernel
theorem dX6_plate_86 : decode cX6_plate 86 = .ok (.aload_n 0, 1) := by decide +kernel
theorem dX6_plate_87 : decode cX6_plate 87 = .ok (.getfield 12, 3) := by decide +kernel
theorem dX6_plate_90 : decode cX6_plate 90 = .ok (.iload 4, 2) := by decide +kernel
theorem dX6_plate_92 : decode cX6_plate 92 = .ok (.invokevirtual 255, 3) := by decide +kernel
theorem dX6_plate_95 : decode cX6_plate 95 = .ok (.ireturn, 1) := by decide +kernel
theorem dX6_plate_96 : decode cX6_plate 96 = .ok (.aload_n 0, 1) := by decide +kernel
theorem dX6_plate_97 : decode cX6_plate 97 = .ok (.getfield 56, 3) := by decide +kernel
theorem dX6_plate_100 : decode cX6_plate 100 = .ok (.aload_n 0, 1) := by decide +kernel
theorem dX6_plate_101 : decode cX6_plate 101 = .ok (.getfield 12, 3) := by decide +kernel
theorem dX6_plate_104 : decode cX6_plate 104 = .ok (.iload 4, 2) := by decide +kernel
theorem dX6_plate_106 : decode cX6_plate 106 = .ok (.invokevirtual 258, 3) := by decide +kernel
theorem dX6_plate_109 : decode cX6_plate 109 = .ok (.aload_n 0, 1) := by decide +kernel
theorem dX6_plate_110 : decode cX6_plate 110 = .ok (.getfield 56, 3) := by decide +kernel
theorem dX6_plate_113 : decode cX6_plate 113 = .ok (.getfield 261, 3) := by decide +kernel
theorem dX6_plate_116 : decode cX6_plate 116 = .ok (.ireturn, 1) := by decide +kernel
theorem dX6_plate_117 : decode cX6_plate 117 = .ok (.aload_n 0, 1) := by decide +kernel
theorem dX6_plate_118 : decode cX6_plate 118 = .ok (.getfield 56, 3) := by decide +kernel
theorem dX6_plate_121 : decode cX6_plate 121 = .ok (.aload_n 0, 1) := by decide +kernel
theorem dX6_plate_122 : decode cX6_plate 122 = .ok (.getfield 12, 3) := by decide +kernel
theorem dX6_plate_125 : decode cX6_plate 125 = .ok (.iload 4, 2) := by decide +kernel
theorem dX6_plate_127 : decode cX6_plate 127 = .ok (.invokevirtual 258, 3) := by decide +kernel
theorem dX6_plate_130 : decode cX6_plate 130 = .ok (.aload_n 0, 1) := by decide +kernel
theorem dX6_plate_131 : decode cX6_plate 131 = .ok (.getfield 56, 3) := by decide +kernel
theorem dX6_plate_134 : decode cX6_plate 134 = .ok (.getfield 123, 3) := by decide +kernel
theorem dX6_plate_137 : decode cX6_plate 137 = .ok (.ireturn, 1) := by decide +kernel
theorem dX6_plate_138 : decode cX6_plate 138 = .ok (.bipush (-2), 2) := by decide +kernel
theorem dX6_plate_140 : decode cX6_plate 140 = .ok (.ireturn, 1) := by decide +kernel
set_option maxRecDepth 20000 in
theorem ggX6_petal_X6_isPart : GoodIn wsX6_petal wsX6_isPart := goodIn_r _ [5, 6, 7, 4, 8, 9, 10, 11, 12, 13, 14, 15, 16, 17] (by decide +kernel) (by decide +kernel)
set_option maxRecDepth 20000 in
theorem gX6_petal_X6_isPart : GoodIn wsX6_petal (va_wsS RX6 222 yX6_isPart wsX6_isPart) := goodIn_app (goodIn_of _ (by decide +kernel)) ggX6_petal_X6_isPart
set_option maxRecDepth 20000 in
theorem ggX6_petal_X6_roseOf : GoodIn wsX6_petal wsX6_roseOf := goodIn_r _ [20] (by decide +kernel) (by decide +kernel)
set_option maxRecDepth 20000 in
theorem gX6_petal_X6_roseOf : GoodIn wsX6_petal (va_wsS RX6 72 yX6_roseOf wsX6_roseOf) := goodIn_app (goodIn_of _ (by decide +kernel)) ggX6_petal_X6_roseOf
set_option maxRecDepth 20000 in
theorem ggX6_petal_X6_partOf : GoodIn wsX6_petal wsX6_partOf := goodIn_r _ [23] (by decide +kernel) (by decide +kernel)
set_option maxRecDepth 20000 in
theorem gX6_petal_X6_partOf : GoodIn wsX6_petal (va_wsS RX6 232 yX6_partOf wsX6_partOf) := goodIn_app (goodIn_of _ (by decide +kernel)) ggX6_petal_X6_partOf
set_option maxRecDepth 20000 in
theorem ggX6_petal_X0_petalLength : GoodIn wsX6_petal wsX0_petalLength := goodIn_r _ [28, 29, 39, 40] (by decide +kernel) (by decide +kernel)
set_option maxRecDepth 20000 in
theorem gX6_petal_X0_petalLength : GoodIn wsX6_petal (wsV RX6 264 RX0 yX0_petalLength wsX0_petalLength) := goodIn_app (goodIn_of _ (by decide +kernel)) ggX6_petal_X0_petalLength
theorem dX6_petal_0 : decode cX6_petal 0 = .ok (.iload_n 1, 1) := by decide +kernel
theorem dX6_petal_1 : decode cX6_petal 1 = .ok (.iload_n 2, 1) := by decide +kernel
theorem dX6_petal_2 : decode cX6_petal 2 = .ok (.iload_n 3, 1) := by decide +kernel
theorem dX6_petal_3 : decode cX6_petal 3 = .ok (.iload 4, 2) := by decide +kernel
theorem dX6_petal_5 : decode cX6_petal 5 = .ok (.invokestatic 222, 3) := by decide +kernel
theorem dX6_petal_8 : decode cX6_petal 8 = .ok (.ifCond .ne 5, 3) := by decide +kernel
theorem dX6_petal_11 : decode cX6_petal 11 = .ok (.iconst (-1), 1) := by decide +kernel
theorem dX6_petal_12 : decode cX6_petal 12 = .ok (.ireturn, 1) := by decide +kernel
theorem dX6_petal_13 : decode cX6_petal 13 = .ok (.aload_n 0, 1) := by decide +kernel
theorem dX6_petal_14 : decode cX6_petal 14 = .ok (.getfield 12, 3) := by decide +kernel
theorem dX6_petal_17 : decode cX6_petal 17 = .ok (.iload_n 1, 1) := by decide +kernel
theorem dX6_petal_18 : decode cX6_petal 18 = .ok (.iload_n 2, 1) := by decide +kernel
theorem dX6_petal_19 : decode cX6_petal 19 = .ok (.invokestatic 72, 3) := by decide +kernel
theorem dX6_petal_22 : decode cX6_petal 22 = .ok (.iload_n 3, 1) := by decide +kernel
theorem dX6_petal_23 : decode cX6_petal 23 = .ok (.iload 4, 2) := by decide +kernel
theorem dX6_petal_25 : decode cX6_petal 25 = .ok (.invokestatic 232, 3) := by decide +kernel
theorem dX6_petal_28 : decode cX6_petal 28 = .ok (.invokevirtual 264, 3) := by decide +kernel
theorem dX6_petal_31 : decode cX6_petal 31 = .ok (.ireturn, 1) := by decide +kernel
set_option maxRecDepth 20000 in
theorem ggX6_reason_X6_isRose : GoodIn wsX6_reason wsX6_isRose := goodIn_r _ [4, 5, 6, 3, 7] (by decide +kernel) (by decide +kernel)
set_option maxRecDepth 20000 in
theorem gX6_reason_X6_isRose : GoodIn wsX6_reason (va_wsS RX6 60 yX6_isRose wsX6_isRose) := goodIn_app (goodIn_of _ (by decide +kernel)) ggX6_reason_X6_isRose
set_option maxRecDepth 20000 in
theorem ggX6_reason_X6_roseOf : GoodIn wsX6_reason wsX6_roseOf := goodIn_r _ [10] (by decide +kernel) (by decide +kernel)
set_option maxRecDepth 20000 in
theorem gX6_reason_X6_roseOf : GoodIn wsX6_reason (va_wsS RX6 72 yX6_roseOf wsX6_roseOf) := goodIn_app (goodIn_of _ (by decide +kernel)) ggX6_reason_X6_roseOf
set_option maxRecDepth 20000 in
theorem ggX6_reason_X6_obstacleTo : GoodIn wsX6_reason wsX6_obstacleTo := goodIn_r _ [14, 15, 16, 17, 18, 19, 20, 21, 22, 23, 24, 25, 26, 27, 28, 29, 30, 31, 32, 33, 34, 35, 36, 37, 38, 39, 40, 41, 42, 43, 44, 45, 46, 47, 48, 49, 50, 51, 52, 53, 54, 55, 56, 57, 58, 59, 60, 3, 61, 62, 63, 64, 65, 66, 67, 68, 69, 70, 71, 72, 73, 74, 75, 76, 77, 78, 79, 80, 81, 82, 83, 84, 85, 86, 87, 88, 89, 90, 91, 92, 93, 94, 95, 96, 97, 98, 99, 100, 101, 102, 103, 104, 105, 106, 107, 108, 109, 110, 111, 112, 113, 114, 115, 116, 117, 118, 119, 120, 121, 122] (by decide +kernel) (by decide +kernel)
set_option maxRecDepth 20000 in
theorem gX6_reason_X6_obstacleTo : GoodIn wsX6_reason (wsV RX6 117 RX6 yX6_obstacleTo wsX6_obstacleTo) := goodIn_app (goodIn_of _ (by decide +kernel)) ggX6_reason_X6_obstacleTo
theorem dX6_reason_0 : decode cX6_reason 0 = .ok (.iload_n 1, 1) := by decide +kernel
theorem dX6_reason_1 : decode cX6_reason 1 = .ok (.iload_n 2, 1) := by decide +kernel
theorem dX6_reason_2 : decode cX6_reason 2 = .ok (.invokestatic 60, 3) := by decide +kernel
theorem dX6_reason_5 : decode cX6_reason 5 = .ok (.ifCond .eq 15, 3) := by decide +kernel
theorem dX6_reason_8 : decode cX6_reason 8 = .ok (.aload_n 0, 1) := by decide +kernel
theorem dX6_reason_9 : decode cX6_reason 9 = .ok (.iload_n 1, 1) := by decide +kernel
theorem dX6_reason_10 : decode cX6_reason 10 = .ok (.iload_n 2, 1) := by decide +kernel
theorem dX6_reason_11 : decode cX6_reason 11 = .ok (.invokestatic 72, 3) := by decide +kernel
theorem dX6_reason_14 : decode cX6_reason 14 = .ok (.invokevirtual 117, 3) := by decide +kernel
theorem dX6_reason_17 : decode cX6_reason 17 = .ok (.goto 4, 3) := by decide +kernel
theorem dX6_reason_20 : decode cX6_reason 20 = .ok (.iconst (-1), 1) := by decide +kernel
theorem dX6_reason_21 : decode cX6_reason 21 = .ok (.ireturn, 1) := by decide +kernel
set_option maxRecDepth 20000 in
theorem ggX6_nextPlate_X6_obstacleTo : GoodIn wsX6_nextPlate wsX6_obstacleTo := goodIn_r _ [7, 8, 1, 9, 10, 11, 12, 13, 14, 15, 16, 17, 18, 19, 20, 21, 22, 23, 24, 25, 26, 27, 28, 29, 30, 31, 32, 33, 34, 35, 36, 37, 38, 39, 40, 41, 42, 43, 44, 45, 46, 47, 48, 49, 50, 51, 52, 6, 53, 54, 55, 56, 57, 58, 59, 60, 61, 62, 63, 64, 65, 66, 67, 68, 69, 70, 71, 72, 73, 74, 75, 76, 77, 78, 79, 80, 81, 82, 83, 84, 85, 86, 87, 88, 89, 90, 91, 92, 93, 94, 95, 96, 97, 98, 99, 100, 101, 102, 103, 104, 105, 106, 107, 108, 109, 110, 111, 112, 113, 114] (by decide +kernel) (by decide +kernel)
set_option maxRecDepth 20000 in
theorem gX6_nextPlate_X6_obstacleTo : GoodIn wsX6_nextPlate (wsV RX6 117 RX6 yX6_obstacleTo wsX6_obstacleTo) := goodIn_app (goodIn_of _ (by decide +kernel)) ggX6_nextPlate_X6_obstacleTo
theorem dX6_nextPlate_0 : decode cX6_nextPlate 0 = .ok (.iconst 0, 1) := by decide +kernel
theorem dX6_nextPlate_1 : decode cX6_nextPlate 1 = .ok (.istore_n 1, 1) := by decide +kernel
theorem dX6_nextPlate_2 : decode cX6_nextPlate 2 = .ok (.bipush (-5), 2) := by decide +kernel
theorem dX6_nextPlate_4 : decode cX6_nextPlate 4 = .ok (.istore_n 2, 1) := by decide +kernel
theorem dX6_nextPlate_5 : decode cX6_nextPlate 5 = .ok (.iconst 0, 1) := by decide +kernel
theorem dX6_nextPlate_6 : decode cX6_nextPlate 6 = .ok (.istore_n 3, 1) := by decide +kernel
theorem dX6_nextPlate_7 : decode cX6_nextPlate 7 = .ok (.iload_n 3, 1) := by decide +kernel
theorem dX6_nextPlate_8 : decode cX6_nextPlate 8 = .ok (.bipush 16, 2) := by decide +kernel
theorem dX6_nextPlate_10 : decode cX6_nextPlate 10 = .ok (.if_icmp .ge 38, 3) := by decide +kernel
theorem dX6_nextPlate_13 : decode cX6_nextPlate 13 = .ok (.aload_n 0, 1) := by decide +kernel
theorem dX6_nextPlate_14 : decode cX6_nextPlate 14 = .ok (.iload_n 3, 1) := by decide +kernel
theorem dX6_nextPlate_15 : decode cX6_nextPlate 15 = .ok (.invokevirtual 117, 3) := by decide +kernel
theorem dX6_nextPlate_18 : decode cX6_nextPlate 18 = .ok (.ifCond .ne 24, 3) := by decide +kernel
theorem dX6_nextPlate_21 : decode cX6_nextPlate 21 = .ok (.aload_n 0, 1) := by decide +kernel
theorem dX6_nextPlate_22 : decode cX6_nextPlate 22 = .ok (.getfield 56, 3) := by decide +kernel
theorem dX6_nextPlate_25 : decode cX6_nextPlate 25 = .ok (.getfield 261, 3) := by decide +kernel
theorem dX6_nextPlate_28 : decode cX6_nextPlate 28 = .ok (.iload_n 1, 1) := by decide +kernel
theorem dX6_nextPlate_29 : decode cX6_nextPlate 29 = .ok (.if_icmp .le 13, 3) := by decide +kernel
theorem dX6_nextPlate_32 : decode cX6_nextPlate 32 = .ok (.aload_n 0, 1) := by decide +kernel
theorem dX6_nextPlate_33 : decode cX6_nextPlate 33 = .ok (.getfield 56, 3) := by decide +kernel
theorem dX6_nextPlate_36 : decode cX6_nextPlate 36 = .ok (.getfield 261, 3) := by decide +kernel
theorem dX6_nextPlate_39 : decode cX6_nextPlate 39 = .ok (.istore_n 1, 1) := by decide +kernel
theorem dX6_nextPlate_40 : decode cX6_nextPlate 40 = .ok (.iload_n 3, 1) := by decide +kernel
theorem dX6_nextPlate_41 : decode cX6_nextPlate 41 = .ok (.istore_n 2, 1) := by decide +kernel
theorem dX6_nextPlate_42 : decode cX6_nextPlate 42 = .ok (.iinc 3 1, 3) := by decide +kernel
theorem dX6_nextPlate_45 : decode cX6_nextPlate 45 = .ok (.goto (-38), 3) := by decide +kernel
theorem dX6_nextPlate_48 : decode cX6_nextPlate 48 = .ok (.iload_n 2, 1) := by decide +kernel
theorem dX6_nextPlate_49 : decode cX6_nextPlate 49 = .ok (.ireturn, 1) := by decide +kernel
set_option maxRecDepth 20000 in
theorem ggX6_count_X0_hoursOfAll : GoodIn wsX6_count wsX0_hoursOfAll := goodIn_r _ [9, 10, 11, 12, 8, 13, 14, 134, 135] (by decide +kernel) (by decide +kernel)
set_option maxRecDepth 20000 in
theorem gX6_count_X0_hoursOfAll : GoodIn wsX6_count (wsV RX6 189 RX0 yX0_hoursOfAll wsX0_hoursOfAll) := goodIn_app (goodIn_of _ (by decide +kernel)) ggX6_count_X0_hoursOfAll
set_option maxRecDepth 20000 in
theorem ggX6_count_X0_calmHoursOfAll : GoodIn wsX6_count wsX0_calmHoursOfAll := goodIn_r _ [18, 10, 11, 12, 8, 13, 14, 134, 135] (by decide +kernel) (by decide +kernel)
set_option maxRecDepth 20000 in
theorem gX6_count_X0_calmHoursOfAll : GoodIn wsX6_count (wsV RX6 267 RX0 yX0_calmHoursOfAll wsX0_calmHoursOfAll) := goodIn_app (goodIn_of _ (by decide +kernel)) ggX6_count_X0_calmHoursOfAll
set_option maxRecDepth 20000 in
theorem ggX6_count_X6_platesNotAsDue : GoodIn wsX6_count wsX6_platesNotAsDue := goodIn_r _ [23, 24, 1, 25, 26, 27, 28, 29, 30, 31, 32, 33, 34, 35, 36, 37, 38, 39, 40, 41, 42, 43, 44, 45, 46, 47, 48, 49, 50, 8, 51, 14, 52, 53, 54, 55, 56, 22, 57, 58, 59, 60, 61, 62, 63, 64, 65, 66, 67, 68, 69, 70, 71, 72, 73, 74, 75, 76, 77, 78, 79, 80, 81, 82, 83, 84, 85, 86, 87, 88, 89, 90, 91, 92, 93, 94, 95, 96, 97, 98, 99, 100, 101, 102, 122, 123, 124, 125, 126, 127, 128, 129, 130, 136, 137, 138, 139, 140, 141, 142, 143, 134, 135] (by decide +kernel) (by decide +kernel)
set_option maxRecDepth 20000 in
theorem gX6_count_X6_platesNotAsDue : GoodIn wsX6_count (wsV RX6 270 RX6 yX6_platesNotAsDue wsX6_platesNotAsDue) := goodIn_app (goodIn_of _ (by decide +kernel)) ggX6_count_X6_platesNotAsDue
set_option maxRecDepth 20000 in
theorem ggX6_count_X0_scrapesOfAll : GoodIn wsX6_count wsX0_scrapesOfAll := goodIn_r _ [106, 10, 11, 12, 8, 13, 14, 134, 135] (by decide +kernel) (by decide +kernel)
set_option maxRecDepth 20000 in
theorem gX6_count_X0_scrapesOfAll : GoodIn wsX6_count (wsV RX6 273 RX0 yX0_scrapesOfAll wsX0_scrapesOfAll) := goodIn_app (goodIn_of _ (by decide +kernel)) ggX6_count_X0_scrapesOfAll
set_option maxRecDepth 20000 in
theorem ggX6_count_X0_platesEngraved : GoodIn wsX6_count wsX0_platesEngraved := goodIn_r _ [110, 14, 134, 135] (by decide +kernel) (by decide +kernel)
set_option maxRecDepth 20000 in
theorem gX6_count_X0_platesEngraved : GoodIn wsX6_count (wsV RX6 276 RX0 yX0_platesEngraved wsX0_platesEngraved) := goodIn_app (goodIn_of _ (by decide +kernel)) ggX6_count_X0_platesEngraved
set_option maxRecDepth 20000 in
theorem ggX6_count_X0_platesRenewed : GoodIn wsX6_count wsX0_platesRenewed := goodIn_r _ [114, 14, 134, 135] (by decide +kernel) (by decide +kernel)
set_option maxRecDepth 20000 in
theorem gX6_count_X0_platesRenewed : GoodIn wsX6_count (wsV RX6 279 RX0 yX0_platesRenewed wsX0_platesRenewed) := goodIn_app (goodIn_of _ (by decide +kernel)) ggX6_count_X0_platesRenewed
set_option maxRecDepth 20000 in
theorem ggX6_count_X0_setting : GoodIn wsX6_count wsX0_setting := goodIn_r _ [65, 14, 134, 135] (by decide +kernel) (by decide +kernel)
set_option maxRecDepth 20000 in
theorem gX6_count_X0_setting : GoodIn wsX6_count (wsV RX6 111 RX0 yX0_setting wsX0_setting) := goodIn_app (goodIn_of _ (by decide +kernel)) ggX6_count_X0_setting
set_option maxRecDepth 20000 in
theorem ggX6_count_X5_length : GoodIn wsX6_count wsX5_length := goodIn_r _ [120, 121, 144, 145] (by decide +kernel) (by decide +kernel)
set_option maxRecDepth 20000 in
theorem gX6_count_X5_length : GoodIn wsX6_count (wsV RX6 153 RX5 yX5_length wsX5_length) := goodIn_app (goodIn_of _ (by decide +kernel)) ggX6_count_X5_length
theorem dX6_count_0 : decode cX6_count 0 = .ok (.iload_n 1, 1) := by decide +kernel
theorem dX6_count_1 : decode cX6_count 1 = .ok (.tableswitch 132 0 10 #[59, 67, 75, 80, 88, 96, 104, 104, 104, 116, 124], 59) := by decide +kernel
theorem dX6_count_60 : decode cX6_count 60 = .ok (.aload_n 0, 1) := by decide +kernel
theorem dX6_count_61 : decode cX6_count 61 = .ok (.getfield 12, 3) := by decide +kernel
theorem dX6_count_64 : decode cX6_count 64 = .ok (.invokevirtual 189, 3) := by decide +kernel
theorem dX6_count_67 : decode cX6_count 67 = .ok (.ireturn, 1) := by decide +kernel
theorem dX6_count_68 : decode cX6_count 68 = .ok (.aload_n 0, 1) := by decide +kernel
theorem dX6_count_69 : decode cX6_count 69 = .ok (.getfield 12, 3) := by decide +kernel
theorem dX6_count_72 : decode cX6_count 72 = .ok (.invokevirtual 267, 3) := by decide +kernel
theorem dX6_count_75 : decode cX6_count 75 = .ok (.ireturn, 1) := by decide +kernel
theorem dX6_count_76 : decode cX6_count 76 = .ok (.aload_n 0, 1) := by decide +kernel
theorem dX6_count_77 : decode cX6_count 77 = .ok (.invokevirtual 270, 3) := by decide +kernel
theorem dX6_count_80 : decode cX6_count 80 = .ok (.ireturn, 1) := by decide +kernel
theorem dX6_count_81 : decode cX6_count 81 = .ok (.aload_n 0, 1) := by decide +kernel
theorem dX6_count_82 : decode cX6_count 82 = .ok (.getfield 12, 3) := by decide +kernel
theorem dX6_count_85 : decode cX6_count 85 = .ok (.invokevirtual 273, 3) := by decide +kernel
theorem dX6_count_88 : decode cX6_count 88 = .ok (.ireturn, 1) := by decide +kernel
theorem dX6_count_89 : decode cX6_count 89 = .ok (.aload_n 0, 1) := by decide +kernel
theorem dX6_count_90 : decode cX6_count 90 = .ok (.getfield 12, 3) := by decide +kernel
theorem dX6_count_93 : decode cX6_count 93 = .ok (.invokevirtual 276, 3) := by decide +kernel
theorem dX6_count_96 : decode cX6_count 96 = .ok (.ireturn, 1) := by decide +kernel
theorem dX6_count_97 : decode cX6_count 97 = .ok (.aload_n 0, 1) := by decide +kernel
theorem dX6_count_98 : decode cX6_count 98 = .ok (.getfield 12, 3) := by decide +kernel
theorem dX6_count_101 : decode cX6_count 101 = .ok (.invokevirtual 279, 3) := by decide +kernel
theorem dX6_count_104 : decode cX6_count 104 = .ok (.ireturn, 1) := by decide +kernel
theorem dX6_count_105 : decode cX6_count 105 = .ok (.aload_n 0, 1) := by decide +kernel
theorem dX6_count_106 : decode cX6_count 106 = .ok (.getfield 12, 3) := by decide +kernel
theorem dX6_count_109 : decode cX6_count 109 = .ok (.iload_n 1, 1) := by decide +kernel
theorem dX6_count_110 : decode cX6_count 110 = .ok (.bipush 6, 2) := by decide +kernel
theorem dX6_count_112 : decode cX6_count 112 = .ok (.isub, 1) := by decide +kernel
theorem dX6_count_113 : decode cX6_count 113 = .ok (.invokevirtual 111, 3) := by decide +kernel
theorem dX6_count_116 : decode cX6_count 116 = .ok (.ireturn, 1) := by decide +kernel
theorem dX6_count_117 : decode cX6_count 117 = .ok (.aload_n 0, 1) := by decide +kernel
theorem dX6_count_118 : decode cX6_count 118 = .ok (.getfield 19, 3) := by decide +kernel
theorem dX6_count_121 : decode cX6_count 121 = .ok (.getfield 179, 3) := by decide +kernel
theorem dX6_count_124 : decode cX6_count 124 = .ok (.ireturn, 1) := by decide +kernel
theorem dX6_count_125 : decode cX6_count 125 = .ok (.aload_n 0, 1) := by decide +kernel
theorem dX6_count_126 : decode cX6_count 126 = .ok (.getfield 42, 3) := by decide +kernel
theorem dX6_count_129 : decode cX6_count 129 = .ok (.invokevirtual 153, 3) := by decide +kernel
theorem dX6_count_132 : decode cX6_count 132 = .ok (.ireturn, 1) := by decide +kernel
theorem dX6_count_133 : decode cX6_count 133 = .ok (.bipush (-2), 2) := by decide +kernel
theorem dX6_count_135 : decode cX6_count 135 = .ok (.ireturn, 1) := by decide +kernel
theorem dX6_isBetween_0 : decode cX6_isBetween 0 = .ok (.iload_n 0, 1) := by decide +kernel
theorem dX6_isBetween_1 : decode cX6_isBetween 1 = .ok (.iload_n 1, 1) := by decide +kernel
theorem dX6_isBetween_2 : decode cX6_isBetween 2 = .ok (.if_icmp .lt 12, 3) := by decide +kernel
theorem dX6_isBetween_5 : decode cX6_isBetween 5 = .ok (.iload_n 0, 1) := by decide +kernel
theorem dX6_isBetween_6 : decode cX6_isBetween 6 = .ok (.iload_n 2, 1) := by decide +kernel
theorem dX6_isBetween_7 : decode cX6_isBetween 7 = .ok (.if_icmp .gt 7, 3) := by decide +kernel
theorem dX6_isBetween_10 : decode cX6_isBetween 10 = .ok (.iconst 1, 1) := by decide +kernel
theorem dX6_isBetween_11 : decode cX6_isBetween 11 = .ok (.goto 4, 3) := by decide +kernel
theorem dX6_isBetween_14 : decode cX6_isBetween 14 = .ok (.iconst 0, 1) := by decide +kernel
theorem dX6_isBetween_15 : decode cX6_isBetween 15 = .ok (.ireturn, 1) := by decide +kernel
set_option maxRecDepth 20000 in
theorem ggX6_isRose_X6_isBetween : GoodIn wsX6_isRose wsX6_isBetween := goodIn_r _ [4] (by decide +kernel) (by decide +kernel)
set_option maxRecDepth 20000 in
theorem gX6_isRose_X6_isBetween : GoodIn wsX6_isRose (va_wsS RX6 68 yX6_isBetween wsX6_isBetween) := goodIn_app (goodIn_of _ (by decide +kernel)) ggX6_isRose_X6_isBetween
theorem dX6_isRose_0 : decode cX6_isRose 0 = .ok (.iload_n 0, 1) := by decide +kernel
theorem dX6_isRose_1 : decode cX6_isRose 1 = .ok (.iconst 0, 1) := by decide +kernel
theorem dX6_isRose_2 : decode cX6_isRose 2 = .ok (.iconst 3, 1) := by decide +kernel
theorem dX6_isRose_3 : decode cX6_isRose 3 = .ok (.invokestatic 68, 3) := by decide +kernel
theorem dX6_isRose_6 : decode cX6_isRose 6 = .ok (.ifCond .eq 16, 3) := by decide +kernel
theorem dX6_isRose_9 : decode cX6_isRose 9 = .ok (.iload_n 1, 1) := by decide +kernel
theorem dX6_isRose_10 : decode cX6_isRose 10 = .ok (.iconst 0, 1) := by decide +kernel
theorem dX6_isRose_11 : decode cX6_isRose 11 = .ok (.iconst 3, 1) := by decide +kernel
theorem dX6_isRose_12 : decode cX6_isRose 12 = .ok (.invokestatic 68, 3) := by decide +kernel
theorem dX6_isRose_15 : decode cX6_isRose 15 = .ok (.ifCond .eq 7, 3) := by decide +kernel
theorem dX6_isRose_18 : decode cX6_isRose 18 = .ok (.iconst 1, 1) := by decide +kernel
theorem dX6_isRose_19 : decode cX6_isRose 19 = .ok (.goto 4, 3) := by decide +kernel
theorem dX6_isRose_22 : decode cX6_isRose 22 = .ok (.iconst 0, 1) := by decide +kernel
theorem dX6_isRose_23 : decode cX6_isRose 23 = .ok (.ireturn, 1) := by decide +kernel
set_option maxRecDepth 20000 in
theorem ggX6_isDirection_X6_isBetween : GoodIn wsX6_isDirection wsX6_isBetween := goodIn_r _ [4] (by decide +kernel) (by decide +kernel)
set_option maxRecDepth 20000 in
theorem gX6_isDirection_X6_isBetween : GoodIn wsX6_isDirection (va_wsS RX6 68 yX6_isBetween wsX6_isBetween) := goodIn_app (goodIn_of _ (by decide +kernel)) ggX6_isDirection_X6_isBetween
theorem dX6_isDirection_0 : decode cX6_isDirection 0 = .ok (.iload_n 0, 1) := by decide +kernel
theorem dX6_isDirection_1 : decode cX6_isDirection 1 = .ok (.iconst 0, 1) := by decide +kernel
theorem dX6_isDirection_2 : decode cX6_isDirection 2 = .ok (.bipush 15, 2) := by decide +kernel
theorem dX6_isDirection_4 : decode cX6_isDirection 4 = .ok (.invokestatic 68, 3) := by decide +kernel
theorem dX6_isDirection_7 : decode cX6_isDirection 7 = .ok (.ireturn, 1) := by decide +kernel
set_option maxRecDepth 20000 in
theorem ggX6_isClass_X6_isBetween : GoodIn wsX6_isClass wsX6_isBetween := goodIn_r _ [4] (by decide +kernel) (by decide +kernel)
set_option maxRecDepth 20000 in
theorem gX6_isClass_X6_isBetween : GoodIn wsX6_isClass (va_wsS RX6 68 yX6_isBetween wsX6_isBetween) := goodIn_app (goodIn_of _ (by decide +kernel)) ggX6_isClass_X6_isBetween
theorem dX6_isClass_0 : decode cX6_isClass 0 = .ok (.iload_n 0, 1) := by decide +kernel
theorem dX6_isClass_1 : decode cX6_isClass 1 = .ok (.iconst 0, 1) := by decide +kernel
theorem dX6_isClass_2 : decode cX6_isClass 2 = .ok (.iconst 2, 1) := by decide +kernel
theorem dX6_isClass_3 : decode cX6_isClass 3 = .ok (.invokestatic 68, 3) := by decide +kernel
theorem dX6_isClass_6 : decode cX6_isClass 6 = .ok (.ireturn, 1) := by decide +kernel
set_option maxRecDepth 20000 in
theorem ggX6_isPart_X6_isRose : GoodIn wsX6_isPart wsX6_isRose := goodIn_r _ [4, 5, 6, 3, 7] (by decide +kernel) (by decide +kernel)
set_option maxRecDepth 20000 in
theorem gX6_isPart_X6_isRose : GoodIn wsX6_isPart (va_wsS RX6 60 yX6_isRose wsX6_isRose) := goodIn_app (goodIn_of _ (by decide +kernel)) ggX6_isPart_X6_isRose
set_option maxRecDepth 20000 in
theorem ggX6_isPart_X6_isDirection : GoodIn wsX6_isPart wsX6_isDirection := goodIn_r _ [10, 5, 6, 3, 7] (by decide +kernel) (by decide +kernel)
set_option maxRecDepth 20000 in
theorem gX6_isPart_X6_isDirection : GoodIn wsX6_isPart (va_wsS RX6 64 yX6_isDirection wsX6_isDirection) := goodIn_app (goodIn_of _ (by decide +kernel)) ggX6_isPart_X6_isDirection
set_option maxRecDepth 20000 in
theorem ggX6_isPart_X6_isClass : GoodIn wsX6_isPart wsX6_isClass := goodIn_r _ [13, 5, 6, 3, 7] (by decide +kernel) (by decide +kernel)
set_option maxRecDepth 20000 in
theorem gX6_isPart_X6_isClass : GoodIn wsX6_isPart (va_wsS RX6 216 yX6_isClass wsX6_isClass) := goodIn_app (goodIn_of _ (by decide +kernel)) ggX6_isPart_X6_isClass
theorem dX6_isPart_0 : decode cX6_isPart 0 = .ok (.iload_n 0, 1) := by decide +kernel
theorem dX6_isPart_1 : decode cX6_isPart 1 = .ok (.iload_n 1, 1) := by decide +kernel
theorem dX6_isPart_2 : decode cX6_isPart 2 = .ok (.invokestatic 60, 3) := by decide +kernel
theorem dX6_isPart_5 : decode cX6_isPart 5 = .ok (.ifCond .eq 21, 3) := by decide +kernel
theorem dX6_isPart_8 : decode cX6_isPart 8 = .ok (.iload_n 2, 1) := by decide +kernel
theorem dX6_isPart_9 : decode cX6_isPart 9 = .ok (.invokestatic 64, 3) := by decide +kernel
theorem dX6_isPart_12 : decode cX6_isPart 12 = .ok (.ifCond .eq 14, 3) := by decide +kernel
theorem dX6_isPart_15 : decode cX6_isPart 15 = .ok (.iload_n 3, 1) := by decide +kernel
theorem dX6_isPart_16 : decode cX6_isPart 16 = .ok (.invokestatic 216, 3) := by decide +kernel
theorem dX6_isPart_19 : decode cX6_isPart 19 = .ok (.ifCond .eq 7, 3) := by decide +kernel
theorem dX6_isPart_22 : decode cX6_isPart 22 = .ok (.iconst 1, 1) := by decide +kernel
theorem dX6_isPart_23 : decode cX6_isPart 23 = .ok (.goto 4, 3) := by decide +kernel
theorem dX6_isPart_26 : decode cX6_isPart 26 = .ok (.iconst 0, 1) := by decide +kernel
theorem dX6_isPart_27 : decode cX6_isPart 27 = .ok (.ireturn, 1) := by decide +kernel
theorem dX6_roseOf_0 : decode cX6_roseOf 0 = .ok (.iload_n 0, 1) := by decide +kernel
theorem dX6_roseOf_1 : decode cX6_roseOf 1 = .ok (.iconst 4, 1) := by decide +kernel
theorem dX6_roseOf_2 : decode cX6_roseOf 2 = .ok (.imul, 1) := by decide +kernel
theorem dX6_roseOf_3 : decode cX6_roseOf 3 = .ok (.iload_n 1, 1) := by decide +kernel
theorem dX6_roseOf_4 : decode cX6_roseOf 4 = .ok (.iadd, 1) := by decide +kernel
theorem dX6_roseOf_5 : decode cX6_roseOf 5 = .ok (.ireturn, 1) := by decide +kernel
theorem dX6_partOf_0 : decode cX6_partOf 0 = .ok (.iload_n 0, 1) := by decide +kernel
theorem dX6_partOf_1 : decode cX6_partOf 1 = .ok (.iconst 3, 1) := by decide +kernel
theorem dX6_partOf_2 : decode cX6_partOf 2 = .ok (.imul, 1) := by decide +kernel
theorem dX6_partOf_3 : decode cX6_partOf 3 = .ok (.iload_n 1, 1) := by decide +kernel
theorem dX6_partOf_4 : decode cX6_partOf 4 = .ok (.iadd, 1) := by decide +kernel
theorem dX6_partOf_5 : decode cX6_partOf 5 = .ok (.ireturn, 1) := by decide +kernel
set_option maxRecDepth 20000 in
theorem ggX6_isSettingInRange_X6_isBetween : GoodIn wsX6_isSettingInRange wsX6_isBetween := goodIn_r _ [4] (by decide +kernel) (by decide +kernel)
set_option maxRecDepth 20000 in
theorem gX6_isSettingInRange_X6_isBetween : GoodIn wsX6_isSettingInRange (va_wsS RX6 68 yX6_isBetween wsX6_isBetween) := goodIn_app (goodIn_of _ (by decide +kernel)) ggX6_isSettingInRange_X6_isBetween
theorem dX6_isSettingInRange_0 : decode cX6_isSettingInRange 0 = .ok (.iload_n 0, 1) := by decide +kernel
theorem dX6_isSettingInRange_1 : decode cX6_isSettingInRange 1 = .ok (.iconst 2, 1) := by decide +kernel
theorem dX6_isSettingInRange_2 : decode cX6_isSettingInRange 2 = .ok (.if_icmp .ne 11, 3) := by decide +kernel
theorem dX6_isSettingInRange_5 : decode cX6_isSettingInRange 5 = .ok (.iload_n 1, 1) := by decide +kernel
theorem dX6_isSettingInRange_6 : decode cX6_isSettingInRange 6 = .ok (.iconst 0, 1) := by decide +kernel
theorem dX6_isSettingInRange_7 : decode cX6_isSettingInRange 7 = .ok (.bipush 9, 2) := by decide +kernel
theorem dX6_isSettingInRange_9 : decode cX6_isSettingInRange 9 = .ok (.invokestatic 68, 3) := by decide +kernel
theorem dX6_isSettingInRange_12 : decode cX6_isSettingInRange 12 = .ok (.ireturn, 1) := by decide +kernel
theorem dX6_isSettingInRange_13 : decode cX6_isSettingInRange 13 = .ok (.iload_n 1, 1) := by decide +kernel
theorem dX6_isSettingInRange_14 : decode cX6_isSettingInRange 14 = .ok (.iconst 1, 1) := by decide +kernel
theorem dX6_isSettingInRange_15 : decode cX6_isSettingInRange 15 = .ok (.bipush 99, 2) := by decide +kernel
theorem dX6_isSettingInRange_17 : decode cX6_isSettingInRange 17 = .ok (.invokestatic 68, 3) := by decide +kernel
theorem dX6_isSettingInRange_20 : decode cX6_isSettingInRange 20 = .ok (.ireturn, 1) := by decide +kernel
set_option maxRecDepth 20000 in
theorem ggX6_wouldMixBounds_X0_setting : GoodIn wsX6_wouldMixBounds wsX0_setting := goodIn_r _ [6, 7, 17, 18] (by decide +kernel) (by decide +kernel)
set_option maxRecDepth 20000 in
theorem gX6_wouldMixBounds_X0_setting : GoodIn wsX6_wouldMixBounds (wsV RX6 111 RX0 yX0_setting wsX0_setting) := goodIn_app (goodIn_of _ (by decide +kernel)) ggX6_wouldMixBounds_X0_setting
theorem dX6_wouldMixBounds_0 : decode cX6_wouldMixBounds 0 = .ok (.iload_n 1, 1) := by decide +kernel
theorem dX6_wouldMixBounds_1 : decode cX6_wouldMixBounds 1 = .ok (.ifCond .ne 21, 3) := by decide +kernel
theorem dX6_wouldMixBounds_4 : decode cX6_wouldMixBounds 4 = .ok (.iload_n 2, 1) := by decide +kernel
theorem dX6_wouldMixBounds_5 : decode cX6_wouldMixBounds 5 = .ok (.aload_n 0, 1) := by decide +kernel
theorem dX6_wouldMixBounds_6 : decode cX6_wouldMixBounds 6 = .ok (.getfield 12, 3) := by decide +kernel
theorem dX6_wouldMixBounds_9 : decode cX6_wouldMixBounds 9 = .ok (.iconst 1, 1) := by decide +kernel
theorem dX6_wouldMixBounds_10 : decode cX6_wouldMixBounds 10 = .ok (.invokevirtual 111, 3) := by decide +kernel
theorem dX6_wouldMixBounds_13 : decode cX6_wouldMixBounds 13 = .ok (.if_icmp .lt 7, 3) := by decide +kernel
theorem dX6_wouldMixBounds_16 : decode cX6_wouldMixBounds 16 = .ok (.iconst 1, 1) := by decide +kernel
theorem dX6_wouldMixBounds_17 : decode cX6_wouldMixBounds 17 = .ok (.goto 4, 3) := by decide +kernel
theorem dX6_wouldMixBounds_20 : decode cX6_wouldMixBounds 20 = .ok (.iconst 0, 1) := by decide +kernel
theorem dX6_wouldMixBounds_21 : decode cX6_wouldMixBounds 21 = .ok (.ireturn, 1) := by decide +kernel
theorem dX6_wouldMixBounds_22 : decode cX6_wouldMixBounds 22 = .ok (.iload_n 1, 1) := by decide +kernel
theorem dX6_wouldMixBounds_23 : decode cX6_wouldMixBounds 23 = .ok (.iconst 1, 1) := by decide +kernel
theorem dX6_wouldMixBounds_24 : decode cX6_wouldMixBounds 24 = .ok (.if_icmp .ne 19, 3) := by decide +kernel
theorem dX6_wouldMixBounds_27 : decode cX6_wouldMixBounds 27 = .ok (.aload_n 0, 1) := by decide +kernel
theorem dX6_wouldMixBounds_28 : decode cX6_wouldMixBounds 28 = .ok (.getfield 12, 3) := by decide +kernel
theorem dX6_wouldMixBounds_31 : decode cX6_wouldMixBounds 31 = .ok (.iconst 0, 1) := by decide +kernel
theorem dX6_wouldMixBounds_32 : decode cX6_wouldMixBounds 32 = .ok (.invokevirtual 111, 3) := by decide +kernel
theorem dX6_wouldMixBounds_35 : decode cX6_wouldMixBounds 35 = .ok (.iload_n 2, 1) := by decide +kernel
theorem dX6_wouldMixBounds_36 : decode cX6_wouldMixBounds 36 = .ok (.if_icmp .lt 7, 3) := by decide +kernel
theorem dX6_wouldMixBounds_39 : decode cX6_wouldMixBounds 39 = .ok (.iconst 1, 1) := by decide +kernel
theorem dX6_wouldMixBounds_40 : decode cX6_wouldMixBounds 40 = .ok (.goto 4, 3) := by decide +kernel
theorem dX6_wouldMixBounds_43 : decode cX6_wouldMixBounds 43 = .ok (.iconst 0, 1) := by decide +kernel
theorem dX6_wouldMixBounds_44 : decode cX6_wouldMixBounds 44 = .ok (.ireturn, 1) := by decide +kernel
set_option maxRecDepth 20000 in
theorem ggX6_hoursFrom_J9_floorMod_7cf53 : GoodIn wsX6_hoursFrom wsJ9_floorMod_7cf53 := goodIn_r _ [5] (by decide +kernel) (by decide +kernel)
set_option maxRecDepth 20000 in
theorem gX6_hoursFrom_J9_floorMod_7cf53 : GoodIn wsX6_hoursFrom (va_wsS RX6 282 yJ9_floorMod_7cf53 wsJ9_floorMod_7cf53) := goodIn_app (goodIn_of _ (by decide +kernel)) ggX6_hoursFrom_J9_floorMod_7cf53
set_option maxRecDepth 20000 in
theorem ggX6_hoursFrom_X0_directionHours : GoodIn wsX6_hoursFrom wsX0_directionHours := goodIn_r _ [10, 11, 12, 13, 9, 14, 15, 25, 26] (by decide +kernel) (by decide +kernel)
set_option maxRecDepth 20000 in
theorem gX6_hoursFrom_X0_directionHours : GoodIn wsX6_hoursFrom (wsV RX6 213 RX0 yX0_directionHours wsX0_directionHours) := goodIn_app (goodIn_of _ (by decide +kernel)) ggX6_hoursFrom_X0_directionHours
theorem dX6_hoursFrom_0 : decode cX6_hoursFrom 0 = .ok (.aload_n 0, 1) := by decide +kernel
theorem dX6_hoursFrom_1 : decode cX6_hoursFrom 1 = .ok (.getfield 12, 3) := by decide +kernel
theorem dX6_hoursFrom_4 : decode cX6_hoursFrom 4 = .ok (.iload_n 1, 1) := by decide +kernel
theorem dX6_hoursFrom_5 : decode cX6_hoursFrom 5 = .ok (.iload_n 2, 1) := by decide +kernel
theorem dX6_hoursFrom_6 : decode cX6_hoursFrom 6 = .ok (.bipush 16, 2) := by decide +kernel
theorem dX6_hoursFrom_8 : decode cX6_hoursFrom 8 = .ok (.invokestatic 282, 3) := by decide +kernel
theorem dX6_hoursFrom_11 : decode cX6_hoursFrom 11 = .ok (.invokevirtual 213, 3) := by decide +kernel
theorem dX6_hoursFrom_14 : decode cX6_hoursFrom 14 = .ok (.ireturn, 1) := by decide +kernel
set_option maxRecDepth 20000 in
theorem ggX6_greatestSpeed_X0_speedHours : GoodIn wsX6_greatestSpeed wsX0_speedHours := goodIn_r _ [6, 7, 8, 9, 5, 10, 11, 12, 13, 14, 24, 25] (by decide +kernel) (by decide +kernel)
set_option maxRecDepth 20000 in
theorem gX6_greatestSpeed_X0_speedHours : GoodIn wsX6_greatestSpeed (wsV RX6 285 RX0 yX0_speedHours wsX0_speedHours) := goodIn_app (goodIn_of _ (by decide +kernel)) ggX6_greatestSpeed_X0_speedHours
theorem dX6_greatestSpeed_0 : decode cX6_greatestSpeed 0 = .ok (.bipush 99, 2) := by decide +kernel
theorem dX6_greatestSpeed_2 : decode cX6_greatestSpeed 2 = .ok (.istore_n 2, 1) := by decide +kernel
theorem dX6_greatestSpeed_3 : decode cX6_greatestSpeed 3 = .ok (.iload_n 2, 1) := by decide +kernel
theorem dX6_greatestSpeed_4 : decode cX6_greatestSpeed 4 = .ok (.iconst 1, 1) := by decide +kernel
theorem dX6_greatestSpeed_5 : decode cX6_greatestSpeed 5 = .ok (.if_icmp .lt 23, 3) := by decide +kernel
theorem dX6_greatestSpeed_8 : decode cX6_greatestSpeed 8 = .ok (.aload_n 0, 1) := by decide +kernel
theorem dX6_greatestSpeed_9 : decode cX6_greatestSpeed 9 = .ok (.getfield 12, 3) := by decide +kernel
theorem dX6_greatestSpeed_12 : decode cX6_greatestSpeed 12 = .ok (.iload_n 1, 1) := by decide +kernel
theorem dX6_greatestSpeed_13 : decode cX6_greatestSpeed 13 = .ok (.iload_n 2, 1) := by decide +kernel
theorem dX6_greatestSpeed_14 : decode cX6_greatestSpeed 14 = .ok (.invokevirtual 285, 3) := by decide +kernel
theorem dX6_greatestSpeed_17 : decode cX6_greatestSpeed 17 = .ok (.ifCond .le 5, 3) := by decide +kernel
theorem dX6_greatestSpeed_20 : decode cX6_greatestSpeed 20 = .ok (.iload_n 2, 1) := by decide +kernel
theorem dX6_greatestSpeed_21 : decode cX6_greatestSpeed 21 = .ok (.ireturn, 1) := by decide +kernel
theorem dX6_greatestSpeed_22 : decode cX6_greatestSpeed 22 = .ok (.iinc 2 (-1), 3) := by decide +kernel
theorem dX6_greatestSpeed_25 : decode cX6_greatestSpeed 25 = .ok (.goto (-22), 3) := by decide +kernel
theorem dX6_greatestSpeed_28 : decode cX6_greatestSpeed 28 = .ok (.bipush (-5), 2) := by decide +kernel
theorem dX6_greatestSpeed_30 : decode cX6_greatestSpeed 30 = .ok (.ireturn, 1) := by decide +kernel
set_option maxRecDepth 20000 in
theorem ggX6_meanSpeed_X0_windyHours : GoodIn wsX6_meanSpeed wsX0_windyHours := goodIn_r _ [6, 7, 28, 29] (by decide +kernel) (by decide +kernel)
set_option maxRecDepth 20000 in
theorem gX6_meanSpeed_X0_windyHours : GoodIn wsX6_meanSpeed (wsV RX6 99 RX0 yX0_windyHours wsX0_windyHours) := goodIn_app (goodIn_of _ (by decide +kernel)) ggX6_meanSpeed_X0_windyHours
set_option maxRecDepth 20000 in
theorem ggX6_meanSpeed_X0_speedHours : GoodIn wsX6_meanSpeed wsX0_speedHours := goodIn_r _ [11, 12, 13, 14, 5, 15, 7, 16, 17, 18, 28, 29] (by decide +kernel) (by decide +kernel)
set_option maxRecDepth 20000 in
theorem gX6_meanSpeed_X0_speedHours : GoodIn wsX6_meanSpeed (wsV RX6 285 RX0 yX0_speedHours wsX0_speedHours) := goodIn_app (goodIn_of _ (by decide +kernel)) ggX6_meanSpeed_X0_speedHours
theorem dX6_meanSpeed_0 : decode cX6_meanSpeed 0 = .ok (.aload_n 0, 1) := by decide +kernel
theorem dX6_meanSpeed_1 : decode cX6_meanSpeed 1 = .ok (.getfield 12, 3) := by decide +kernel
theorem dX6_meanSpeed_4 : decode cX6_meanSpeed 4 = .ok (.iload_n 1, 1) := by decide +kernel
theorem dX6_meanSpeed_5 : decode cX6_meanSpeed 5 = .ok (.invokevirtual 99, 3) := by decide +kernel
theorem dX6_meanSpeed_8 : decode cX6_meanSpeed 8 = .ok (.istore_n 2, 1) := by decide +kernel
theorem dX6_meanSpeed_9 : decode cX6_meanSpeed 9 = .ok (.iload_n 2, 1) := by decide +kernel
theorem dX6_meanSpeed_10 : decode cX6_meanSpeed 10 = .ok (.ifCond .gt 6, 3) := by decide +kernel
theorem dX6_meanSpeed_13 : decode cX6_meanSpeed 13 = .ok (.bipush (-5), 2) := by decide +kernel
theorem dX6_meanSpeed_15 : decode cX6_meanSpeed 15 = .ok (.ireturn, 1) := by decide +kernel
theorem dX6_meanSpeed_16 : decode cX6_meanSpeed 16 = .ok (.iconst 0, 1) := by decide +kernel
theorem dX6_meanSpeed_17 : decode cX6_meanSpeed 17 = .ok (.istore_n 3, 1) := by decide +kernel
theorem dX6_meanSpeed_18 : decode cX6_meanSpeed 18 = .ok (.iconst 1, 1) := by decide +kernel
theorem dX6_meanSpeed_19 : decode cX6_meanSpeed 19 = .ok (.istore 4, 2) := by decide +kernel
theorem dX6_meanSpeed_21 : decode cX6_meanSpeed 21 = .ok (.iload 4, 2) := by decide +kernel
theorem dX6_meanSpeed_23 : decode cX6_meanSpeed 23 = .ok (.bipush 99, 2) := by decide +kernel
theorem dX6_meanSpeed_25 : decode cX6_meanSpeed 25 = .ok (.if_icmp .gt 25, 3) := by decide +kernel
theorem dX6_meanSpeed_28 : decode cX6_meanSpeed 28 = .ok (.iload_n 3, 1) := by decide +kernel
theorem dX6_meanSpeed_29 : decode cX6_meanSpeed 29 = .ok (.iload 4, 2) := by decide +kernel
theorem dX6_meanSpeed_31 : decode cX6_meanSpeed 31 = .ok (.aload_n 0, 1) := by decide +kernel
theorem dX6_meanSpeed_32 : decode cX6_meanSpeed 32 = .ok (.getfield 12, 3) := by decide +kernel
theorem dX6_meanSpeed_35 : decode cX6_meanSpeed 35 = .ok (.iload_n 1, 1) := by decide +kernel
theorem dX6_meanSpeed_36 : decode cX6_meanSpeed 36 = .ok (.iload 4, 2) := by decide +kernel
theorem dX6_meanSpeed_38 : decode cX6_meanSpeed 38 = .ok (.invokevirtual 285, 3) := by decide +kernel
theorem dX6_meanSpeed_41 : decode cX6_meanSpeed 41 = .ok (.imul, 1) := by decide +kernel
theorem dX6_meanSpeed_42 : decode cX6_meanSpeed 42 = .ok (.iadd, 1) := by decide +kernel
theorem dX6_meanSpeed_43 : decode cX6_meanSpeed 43 = .ok (.istore_n 3, 1) := by decide +kernel
theorem dX6_meanSpeed_44 : decode cX6_meanSpeed 44 = .ok (.iinc 4 1, 3) := by decide +kernel
theorem dX6_meanSpeed_47 : decode cX6_meanSpeed 47 = .ok (.goto (-26), 3) := by decide +kernel
theorem dX6_meanSpeed_50 : decode cX6_meanSpeed 50 = .ok (.iload_n 3, 1) := by decide +kernel
theorem dX6_meanSpeed_51 : decode cX6_meanSpeed 51 = .ok (.iload_n 2, 1) := by decide +kernel
theorem dX6_meanSpeed_52 : decode cX6_meanSpeed 52 = .ok (.idiv, 1) := by decide +kernel
theorem dX6_meanSpeed_53 : decode cX6_meanSpeed 53 = .ok (.ireturn, 1) := by decide +kernel
set_option maxRecDepth 20000 in
theorem ggX6_prevailingDirection_X0_directionHours : GoodIn wsX6_prevailingDirection wsX0_directionHours := goodIn_r _ [6, 7, 8, 9, 5, 10, 11, 21, 22] (by decide +kernel) (by decide +kernel)
set_option maxRecDepth 20000 in
theorem gX6_prevailingDirection_X0_directionHours : GoodIn wsX6_prevailingDirection (wsV RX6 213 RX0 yX0_directionHours wsX0_directionHours) := goodIn_app (goodIn_of _ (by decide +kernel)) ggX6_prevailingDirection_X0_directionHours
theorem dX6_prevailingDirection_0 : decode cX6_prevailingDirection 0 = .ok (.iconst 0, 1) := by decide +kernel
theorem dX6_prevailingDirection_1 : decode cX6_prevailingDirection 1 = .ok (.istore_n 2, 1) := by decide +kernel
theorem dX6_prevailingDirection_2 : decode cX6_prevailingDirection 2 = .ok (.bipush (-5), 2) := by decide +kernel
theorem dX6_prevailingDirection_4 : decode cX6_prevailingDirection 4 = .ok (.istore_n 3, 1) := by decide +kernel
theorem dX6_prevailingDirection_5 : decode cX6_prevailingDirection 5 = .ok (.iconst 0, 1) := by decide +kernel
theorem dX6_prevailingDirection_6 : decode cX6_prevailingDirection 6 = .ok (.istore 4, 2) := by decide +kernel
theorem dX6_prevailingDirection_8 : decode cX6_prevailingDirection 8 = .ok (.iload 4, 2) := by decide +kernel
theorem dX6_prevailingDirection_10 : decode cX6_prevailingDirection 10 = .ok (.bipush 16, 2) := by decide +kernel
theorem dX6_prevailingDirection_12 : decode cX6_prevailingDirection 12 = .ok (.if_icmp .ge 33, 3) := by decide +kernel
theorem dX6_prevailingDirection_15 : decode cX6_prevailingDirection 15 = .ok (.aload_n 0, 1) := by decide +kernel
theorem dX6_prevailingDirection_16 : decode cX6_prevailingDirection 16 = .ok (.getfield 12, 3) := by decide +kernel
theorem dX6_prevailingDirection_19 : decode cX6_prevailingDirection 19 = .ok (.iload_n 1, 1) := by decide +kernel
theorem dX6_prevailingDirection_20 : decode cX6_prevailingDirection 20 = .ok (.iload 4, 2) := by decide +kernel
theorem dX6_prevailingDirection_22 : decode cX6_prevailingDirection 22 = .ok (.invokevirtual 213, 3) := by decide +kernel
theorem dX6_prevailingDirection_25 : decode cX6_prevailingDirection 25 = .ok (.istore 5, 2) := by decide +kernel
theorem dX6_prevailingDirection_27 : decode cX6_prevailingDirection 27 = .ok (.iload 5, 2) := by decide +kernel
theorem dX6_prevailingDirection_29 : decode cX6_prevailingDirection 29 = .ok (.iload_n 2, 1) := by decide +kernel
theorem dX6_prevailingDirection_30 : decode cX6_prevailingDirection 30 = .ok (.if_icmp .le 9, 3) := by decide +kernel
theorem dX6_prevailingDirection_33 : decode cX6_prevailingDirection 33 = .ok (.iload 5, 2) := by decide +kernel
theorem dX6_prevailingDirection_35 : decode cX6_prevailingDirection 35 = .ok (.istore_n 2, 1) := by decide +kernel
theorem dX6_prevailingDirection_36 : decode cX6_prevailingDirection 36 = .ok (.iload 4, 2) := by decide +kernel
theorem dX6_prevailingDirection_38 : decode cX6_prevailingDirection 38 = .ok (.istore_n 3, 1) := by decide +kernel
theorem dX6_prevailingDirection_39 : decode cX6_prevailingDirection 39 = .ok (.iinc 4 1, 3) := by decide +kernel
theorem dX6_prevailingDirection_42 : decode cX6_prevailingDirection 42 = .ok (.goto (-34), 3) := by decide +kernel
theorem dX6_prevailingDirection_45 : decode cX6_prevailingDirection 45 = .ok (.iload_n 3, 1) := by decide +kernel
theorem dX6_prevailingDirection_46 : decode cX6_prevailingDirection 46 = .ok (.ireturn, 1) := by decide +kernel
set_option maxRecDepth 20000 in
theorem ggX6_obstacleTo_X0_allHours : GoodIn wsX6_obstacleTo wsX0_allHours := goodIn_r _ [9, 10, 11, 12, 8, 13, 14, 15, 16, 17, 18, 104, 105] (by decide +kernel) (by decide +kernel)
set_option maxRecDepth 20000 in
theorem gX6_obstacleTo_X0_allHours : GoodIn wsX6_obstacleTo (wsV RX6 87 RX0 yX0_allHours wsX0_allHours) := goodIn_app (goodIn_of _ (by decide +kernel)) ggX6_obstacleTo_X0_allHours
set_option maxRecDepth 20000 in
theorem ggX6_obstacleTo_X1_measure : GoodIn wsX6_obstacleTo wsX1_measure := goodIn_r _ [23, 24, 25, 26, 27, 28, 29, 30, 31, 32, 33, 34, 35, 36, 37, 38, 39, 40, 41, 11, 12, 8, 13, 14, 42, 43, 44, 45, 46, 47, 48, 49, 50, 51, 52, 53, 54, 55, 56, 57, 58, 59, 60, 61, 62, 63, 64, 65, 66, 67, 68, 69, 70, 71, 22, 72, 73, 74, 75, 76, 77, 78, 79, 80, 81, 82, 83, 84, 85, 6, 7, 9, 10, 15, 16, 17, 18, 100, 101, 102, 103, 106, 107, 108, 109, 104, 105] (by decide +kernel) (by decide +kernel)
set_option maxRecDepth 20000 in
theorem gX6_obstacleTo_X1_measure : GoodIn wsX6_obstacleTo (wsV RX6 258 RX1 yX1_measure wsX1_measure) := goodIn_app (goodIn_of _ (by decide +kernel)) ggX6_obstacleTo_X1_measure
set_option maxRecDepth 20000 in
theorem ggX6_obstacleTo_X0_scrapes : GoodIn wsX6_obstacleTo wsX0_scrapes := goodIn_r _ [89, 14, 104, 105] (by decide +kernel) (by decide +kernel)
set_option maxRecDepth 20000 in
theorem gX6_obstacleTo_X0_scrapes : GoodIn wsX6_obstacleTo (wsV RX6 137 RX0 yX0_scrapes wsX0_scrapes) := goodIn_app (goodIn_of _ (by decide +kernel)) ggX6_obstacleTo_X0_scrapes
set_option maxRecDepth 20000 in
theorem ggX6_obstacleTo_X0_setting : GoodIn wsX6_obstacleTo wsX0_setting := goodIn_r _ [56, 14, 104, 105] (by decide +kernel) (by decide +kernel)
set_option maxRecDepth 20000 in
theorem gX6_obstacleTo_X0_setting : GoodIn wsX6_obstacleTo (wsV RX6 111 RX0 yX0_setting wsX0_setting) := goodIn_app (goodIn_of _ (by decide +kernel)) ggX6_obstacleTo_X0_setting
theorem dX6_obstacleTo_0 : decode cX6_obstacleTo 0 = .ok (.aload_n 0, 1) := by decide +kernel
theorem dX6_obstacleTo_1 : decode cX6_obstacleTo 1 = .ok (.getfield 12, 3) := by decide +kernel
theorem dX6_obstacleTo_4 : decode cX6_obstacleTo 4 = .ok (.iload_n 1, 1) := by decide +kernel
theorem dX6_obstacleTo_5 : decode cX6_obstacleTo 5 = .ok (.invokevirtual 87, 3) := by decide +kernel
theorem dX6_obstacleTo_8 : decode cX6_obstacleTo 8 = .ok (.ifCond .ne 5, 3) := by decide +kernel
theorem dX6_obstacleTo_11 : decode cX6_obstacleTo 11 = .ok (.iconst 1, 1) := by decide +kernel
theorem dX6_obstacleTo_12 : decode cX6_obstacleTo 12 = .ok (.ireturn, 1) := by decide +kernel
theorem dX6_obstacleTo_13 : decode cX6_obstacleTo 13 = .ok (.aload_n 0, 1) := by decide +kernel
theorem dX6_obstacleTo_14 : decode cX6_obstacleTo 14 = .ok (.getfield 56, 3) := by decide +kernel
theorem dX6_obstacleTo_17 : decode cX6_obstacleTo 17 = .ok (.aload_n 0, 1) := by decide +kernel
theorem dX6_obstacleTo_18 : decode cX6_obstacleTo 18 = .ok (.getfield 12, 3) := by decide +kernel
theorem dX6_obstacleTo_21 : decode cX6_obstacleTo 21 = .ok (.iload_n 1, 1) := by decide +kernel
theorem dX6_obstacleTo_22 : decode cX6_obstacleTo 22 = .ok (.invokevirtual 258, 3) := by decide +kernel
theorem dX6_obstacleTo_25 : decode cX6_obstacleTo 25 = .ok (.aload_n 0, 1) := by decide +kernel
theorem dX6_obstacleTo_26 : decode cX6_obstacleTo 26 = .ok (.getfield 56, 3) := by decide +kernel
theorem dX6_obstacleTo_29 : decode cX6_obstacleTo 29 = .ok (.getfield 131, 3) := by decide +kernel
theorem dX6_obstacleTo_32 : decode cX6_obstacleTo 32 = .ok (.ifCond .ne 5, 3) := by decide +kernel
theorem dX6_obstacleTo_35 : decode cX6_obstacleTo 35 = .ok (.iconst 2, 1) := by decide +kernel
theorem dX6_obstacleTo_36 : decode cX6_obstacleTo 36 = .ok (.ireturn, 1) := by decide +kernel
theorem dX6_obstacleTo_37 : decode cX6_obstacleTo 37 = .ok (.aload_n 0, 1) := by decide +kernel
theorem dX6_obstacleTo_38 : decode cX6_obstacleTo 38 = .ok (.getfield 56, 3) := by decide +kernel
theorem dX6_obstacleTo_41 : decode cX6_obstacleTo 41 = .ok (.getfield 123, 3) := by decide +kernel
theorem dX6_obstacleTo_44 : decode cX6_obstacleTo 44 = .ok (.ifCond .le 32, 3) := by decide +kernel
theorem dX6_obstacleTo_47 : decode cX6_obstacleTo 47 = .ok (.aload_n 0, 1) := by decide +kernel
theorem dX6_obstacleTo_48 : decode cX6_obstacleTo 48 = .ok (.getfield 12, 3) := by decide +kernel
theorem dX6_obstacleTo_51 : decode cX6_obstacleTo 51 = .ok (.iload_n 1, 1) := by decide +kernel
theorem dX6_obstacleTo_52 : decode cX6_obstacleTo 52 = .ok (.invokevirtual 137, 3) := by decide +kernel
theorem dX6_obstacleTo_55 : decode cX6_obstacleTo 55 = .ok (.aload_n 0, 1) := by decide +kernel
theorem dX6_obstacleTo_56 : decode cX6_obstacleTo 56 = .ok (.getfield 56, 3) := by decide +kernel
theorem dX6_obstacleTo_59 : decode cX6_obstacleTo 59 = .ok (.getfield 123, 3) := by decide +kernel
theorem dX6_obstacleTo_62 : decode cX6_obstacleTo 62 = .ok (.iadd, 1) := by decide +kernel
theorem dX6_obstacleTo_63 : decode cX6_obstacleTo 63 = .ok (.aload_n 0, 1) := by decide +kernel
theorem dX6_obstacleTo_64 : decode cX6_obstacleTo 64 = .ok (.getfield 12, 3) := by decide +kernel
theorem dX6_obstacleTo_67 : decode cX6_obstacleTo 67 = .ok (.iconst 2, 1) := by decide +kernel
theorem dX6_obstacleTo_68 : decode cX6_obstacleTo 68 = .ok (.invokevirtual 111, 3) := by decide +kernel
theorem dX6_obstacleTo_71 : decode cX6_obstacleTo 71 = .ok (.if_icmp .le 5, 3) := by decide +kernel
theorem dX6_obstacleTo_74 : decode cX6_obstacleTo 74 = .ok (.iconst 3, 1) := by decide +kernel
theorem dX6_obstacleTo_75 : decode cX6_obstacleTo 75 = .ok (.ireturn, 1) := by decide +kernel
theorem dX6_obstacleTo_76 : decode cX6_obstacleTo 76 = .ok (.iconst 0, 1) := by decide +kernel
theorem dX6_obstacleTo_77 : decode cX6_obstacleTo 77 = .ok (.ireturn, 1) := by decide +kernel
set_option maxRecDepth 20000 in
theorem ggX6_platesNotAsDue_X1_measure : GoodIn wsX6_platesNotAsDue wsX1_measure := goodIn_r _ [8, 9, 10, 11, 12, 13, 14, 15, 16, 17, 18, 19, 20, 21, 22, 23, 24, 25, 26, 27, 28, 29, 30, 31, 32, 33, 34, 35, 36, 37, 38, 39, 40, 41, 42, 43, 44, 45, 46, 47, 48, 49, 50, 51, 52, 53, 54, 55, 56, 57, 58, 59, 60, 61, 7, 62, 63, 64, 65, 66, 67, 68, 69, 70, 71, 72, 73, 74, 75, 76, 77, 78, 79, 80, 81, 82, 83, 93, 94, 95, 96, 97, 98, 99, 100, 101, 102] (by decide +kernel) (by decide +kernel)
set_option maxRecDepth 20000 in
theorem gX6_platesNotAsDue_X1_measure : GoodIn wsX6_platesNotAsDue (wsV RX6 258 RX1 yX1_measure wsX1_measure) := goodIn_app (goodIn_of _ (by decide +kernel)) ggX6_platesNotAsDue_X1_measure
theorem dX6_platesNotAsDue_0 : decode cX6_platesNotAsDue 0 = .ok (.iconst 0, 1) := by decide +kernel
theorem dX6_platesNotAsDue_1 : decode cX6_platesNotAsDue 1 = .ok (.istore_n 1, 1) := by decide +kernel
theorem dX6_platesNotAsDue_2 : decode cX6_platesNotAsDue 2 = .ok (.iconst 0, 1) := by decide +kernel
theorem dX6_platesNotAsDue_3 : decode cX6_platesNotAsDue 3 = .ok (.istore_n 2, 1) := by decide +kernel
theorem dX6_platesNotAsDue_4 : decode cX6_platesNotAsDue 4 = .ok (.iload_n 2, 1) := by decide +kernel
theorem dX6_platesNotAsDue_5 : decode cX6_platesNotAsDue 5 = .ok (.bipush 16, 2) := by decide +kernel
theorem dX6_platesNotAsDue_7 : decode cX6_platesNotAsDue 7 = .ok (.if_icmp .ge 34, 3) := by decide +kernel
theorem dX6_platesNotAsDue_10 : decode cX6_platesNotAsDue 10 = .ok (.aload_n 0, 1) := by decide +kernel
theorem dX6_platesNotAsDue_11 : decode cX6_platesNotAsDue 11 = .ok (.getfield 56, 3) := by decide +kernel
theorem dX6_platesNotAsDue_14 : decode cX6_platesNotAsDue 14 = .ok (.aload_n 0, 1) := by decide +kernel
theorem dX6_platesNotAsDue_15 : decode cX6_platesNotAsDue 15 = .ok (.getfield 12, 3) := by decide +kernel
theorem dX6_platesNotAsDue_18 : decode cX6_platesNotAsDue 18 = .ok (.iload_n 2, 1) := by decide +kernel
theorem dX6_platesNotAsDue_19 : decode cX6_platesNotAsDue 19 = .ok (.invokevirtual 258, 3) := by decide +kernel
theorem dX6_platesNotAsDue_22 : decode cX6_platesNotAsDue 22 = .ok (.aload_n 0, 1) := by decide +kernel
theorem dX6_platesNotAsDue_23 : decode cX6_platesNotAsDue 23 = .ok (.getfield 56, 3) := by decide +kernel
theorem dX6_platesNotAsDue_26 : decode cX6_platesNotAsDue 26 = .ok (.getfield 131, 3) := by decide +kernel
theorem dX6_platesNotAsDue_29 : decode cX6_platesNotAsDue 29 = .ok (.ifCond .le 6, 3) := by decide +kernel
theorem dX6_platesNotAsDue_32 : decode cX6_platesNotAsDue 32 = .ok (.iinc 1 1, 3) := by decide +kernel
theorem dX6_platesNotAsDue_35 : decode cX6_platesNotAsDue 35 = .ok (.iinc 2 1, 3) := by decide +kernel
theorem dX6_platesNotAsDue_38 : decode cX6_platesNotAsDue 38 = .ok (.goto (-34), 3) := by decide +kernel
theorem dX6_platesNotAsDue_41 : decode cX6_platesNotAsDue 41 = .ok (.iload_n 1, 1) := by decide +kernel
theorem dX6_platesNotAsDue_42 : decode cX6_platesNotAsDue 42 = .ok (.ireturn, 1) := by decide +kernel
