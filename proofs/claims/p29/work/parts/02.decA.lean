theorem dX0_init_0 : decode cX0_init 0 = .ok (.aload_n 0, 1) := by decide +kernel
theorem dX0_init_1 : decode cX0_init 1 = .ok (.invokespecial 5, 3) := by decide +kernel
theorem dX0_init_4 : decode cX0_init 4 = .ok (.aload_n 0, 1) := by decide +kernel
theorem dX0_init_5 : decode cX0_init 5 = .ok (.sipush 26181, 3) := by decide +kernel
theorem dX0_init_8 : decode cX0_init 8 = .ok (.newarray .int, 2) := by decide +kernel
theorem dX0_init_10 : decode cX0_init 10 = .ok (.putfield 11, 3) := by decide +kernel
theorem dX0_init_13 : decode cX0_init 13 = .ok (.aload_n 0, 1) := by decide +kernel
theorem dX0_init_14 : decode cX0_init 14 = .ok (.sipush 1584, 3) := by decide +kernel
theorem dX0_init_17 : decode cX0_init 17 = .ok (.newarray .int, 2) := by decide +kernel
theorem dX0_init_19 : decode cX0_init 19 = .ok (.putfield 15, 3) := by decide +kernel
theorem dX0_init_22 : decode cX0_init 22 = .ok (.aload_n 0, 1) := by decide +kernel
theorem dX0_init_23 : decode cX0_init 23 = .ok (.getfield 11, 3) := by decide +kernel
theorem dX0_init_26 : decode cX0_init 26 = .ok (.sipush 26176, 3) := by decide +kernel
theorem dX0_init_29 : decode cX0_init 29 = .ok (.bipush 12, 2) := by decide +kernel
theorem dX0_init_31 : decode cX0_init 31 = .ok (.iastore, 1) := by decide +kernel
theorem dX0_init_32 : decode cX0_init 32 = .ok (.aload_n 0, 1) := by decide +kernel
theorem dX0_init_33 : decode cX0_init 33 = .ok (.getfield 11, 3) := by decide +kernel
theorem dX0_init_36 : decode cX0_init 36 = .ok (.sipush 26177, 3) := by decide +kernel
theorem dX0_init_39 : decode cX0_init 39 = .ok (.bipush 30, 2) := by decide +kernel
theorem dX0_init_41 : decode cX0_init 41 = .ok (.iastore, 1) := by decide +kernel
theorem dX0_init_42 : decode cX0_init 42 = .ok (.aload_n 0, 1) := by decide +kernel
theorem dX0_init_43 : decode cX0_init 43 = .ok (.getfield 11, 3) := by decide +kernel
theorem dX0_init_46 : decode cX0_init 46 = .ok (.sipush 26178, 3) := by decide +kernel
theorem dX0_init_49 : decode cX0_init 49 = .ok (.iconst 5, 1) := by decide +kernel
theorem dX0_init_50 : decode cX0_init 50 = .ok (.iastore, 1) := by decide +kernel
theorem dX0_init_51 : decode cX0_init 51 = .ok (.return_, 1) := by decide +kernel
theorem dX0_saveTo_0 : decode cX0_saveTo 0 = .ok (.aload_n 0, 1) := by decide +kernel
theorem dX0_saveTo_1 : decode cX0_saveTo 1 = .ok (.getfield 11, 3) := by decide +kernel
theorem dX0_saveTo_4 : decode cX0_saveTo 4 = .ok (.iconst 0, 1) := by decide +kernel
theorem dX0_saveTo_5 : decode cX0_saveTo 5 = .ok (.aload_n 1, 1) := by decide +kernel
theorem dX0_saveTo_6 : decode cX0_saveTo 6 = .ok (.iload_n 2, 1) := by decide +kernel
theorem dX0_saveTo_7 : decode cX0_saveTo 7 = .ok (.sipush 26181, 3) := by decide +kernel
theorem dX0_saveTo_10 : decode cX0_saveTo 10 = .ok (.invokestatic 18, 3) := by decide +kernel
theorem dX0_saveTo_13 : decode cX0_saveTo 13 = .ok (.return_, 1) := by decide +kernel
theorem dX0_loadFrom_0 : decode cX0_loadFrom 0 = .ok (.aload_n 1, 1) := by decide +kernel
theorem dX0_loadFrom_1 : decode cX0_loadFrom 1 = .ok (.iload_n 2, 1) := by decide +kernel
theorem dX0_loadFrom_2 : decode cX0_loadFrom 2 = .ok (.aload_n 0, 1) := by decide +kernel
theorem dX0_loadFrom_3 : decode cX0_loadFrom 3 = .ok (.getfield 11, 3) := by decide +kernel
theorem dX0_loadFrom_6 : decode cX0_loadFrom 6 = .ok (.iconst 0, 1) := by decide +kernel
theorem dX0_loadFrom_7 : decode cX0_loadFrom 7 = .ok (.sipush 26181, 3) := by decide +kernel
theorem dX0_loadFrom_10 : decode cX0_loadFrom 10 = .ok (.invokestatic 18, 3) := by decide +kernel
theorem dX0_loadFrom_13 : decode cX0_loadFrom 13 = .ok (.return_, 1) := by decide +kernel
theorem dX0_cellOf_0 : decode cX0_cellOf 0 = .ok (.iload_n 0, 1) := by decide +kernel
theorem dX0_cellOf_1 : decode cX0_cellOf 1 = .ok (.sipush 1584, 3) := by decide +kernel
theorem dX0_cellOf_4 : decode cX0_cellOf 4 = .ok (.imul, 1) := by decide +kernel
theorem dX0_cellOf_5 : decode cX0_cellOf 5 = .ok (.iload_n 1, 1) := by decide +kernel
theorem dX0_cellOf_6 : decode cX0_cellOf 6 = .ok (.bipush 99, 2) := by decide +kernel
theorem dX0_cellOf_8 : decode cX0_cellOf 8 = .ok (.imul, 1) := by decide +kernel
theorem dX0_cellOf_9 : decode cX0_cellOf 9 = .ok (.iadd, 1) := by decide +kernel
theorem dX0_cellOf_10 : decode cX0_cellOf 10 = .ok (.iload_n 2, 1) := by decide +kernel
theorem dX0_cellOf_11 : decode cX0_cellOf 11 = .ok (.iadd, 1) := by decide +kernel
theorem dX0_cellOf_12 : decode cX0_cellOf 12 = .ok (.iconst 1, 1) := by decide +kernel
theorem dX0_cellOf_13 : decode cX0_cellOf 13 = .ok (.isub, 1) := by decide +kernel
theorem dX0_cellOf_14 : decode cX0_cellOf 14 = .ok (.ireturn, 1) := by decide +kernel
set_option maxRecDepth 20000 in
theorem ggX0_hoursAt_X0_cellOf : GoodIn wsX0_hoursAt wsX0_cellOf := goodIn_r _ [5] (by decide +kernel) (by decide +kernel)
set_option maxRecDepth 20000 in
theorem gX0_hoursAt_X0_cellOf : GoodIn wsX0_hoursAt (va_wsS RX0 24 yX0_cellOf wsX0_cellOf) := goodIn_app (goodIn_of _ (by decide +kernel)) ggX0_hoursAt_X0_cellOf
theorem dX0_hoursAt_0 : decode cX0_hoursAt 0 = .ok (.aload_n 0, 1) := by decide +kernel
theorem dX0_hoursAt_1 : decode cX0_hoursAt 1 = .ok (.getfield 11, 3) := by decide +kernel
theorem dX0_hoursAt_4 : decode cX0_hoursAt 4 = .ok (.iload_n 1, 1) := by decide +kernel
theorem dX0_hoursAt_5 : decode cX0_hoursAt 5 = .ok (.iload_n 2, 1) := by decide +kernel
theorem dX0_hoursAt_6 : decode cX0_hoursAt 6 = .ok (.iload_n 3, 1) := by decide +kernel
theorem dX0_hoursAt_7 : decode cX0_hoursAt 7 = .ok (.invokestatic 24, 3) := by decide +kernel
theorem dX0_hoursAt_10 : decode cX0_hoursAt 10 = .ok (.iaload, 1) := by decide +kernel
theorem dX0_hoursAt_11 : decode cX0_hoursAt 11 = .ok (.ireturn, 1) := by decide +kernel
theorem dX0_windyHours_0 : decode cX0_windyHours 0 = .ok (.aload_n 0, 1) := by decide +kernel
theorem dX0_windyHours_1 : decode cX0_windyHours 1 = .ok (.getfield 11, 3) := by decide +kernel
theorem dX0_windyHours_4 : decode cX0_windyHours 4 = .ok (.sipush 25344, 3) := by decide +kernel
theorem dX0_windyHours_7 : decode cX0_windyHours 7 = .ok (.iload_n 1, 1) := by decide +kernel
theorem dX0_windyHours_8 : decode cX0_windyHours 8 = .ok (.iadd, 1) := by decide +kernel
theorem dX0_windyHours_9 : decode cX0_windyHours 9 = .ok (.iaload, 1) := by decide +kernel
theorem dX0_windyHours_10 : decode cX0_windyHours 10 = .ok (.ireturn, 1) := by decide +kernel
theorem dX0_calmHours_0 : decode cX0_calmHours 0 = .ok (.aload_n 0, 1) := by decide +kernel
theorem dX0_calmHours_1 : decode cX0_calmHours 1 = .ok (.getfield 11, 3) := by decide +kernel
theorem dX0_calmHours_4 : decode cX0_calmHours 4 = .ok (.sipush 25360, 3) := by decide +kernel
theorem dX0_calmHours_7 : decode cX0_calmHours 7 = .ok (.iload_n 1, 1) := by decide +kernel
theorem dX0_calmHours_8 : decode cX0_calmHours 8 = .ok (.iadd, 1) := by decide +kernel
theorem dX0_calmHours_9 : decode cX0_calmHours 9 = .ok (.iaload, 1) := by decide +kernel
theorem dX0_calmHours_10 : decode cX0_calmHours 10 = .ok (.ireturn, 1) := by decide +kernel
set_option maxRecDepth 20000 in
theorem ggX0_allHours_X0_windyHours : GoodIn wsX0_allHours wsX0_windyHours := goodIn_r _ [5, 6, 11, 12] (by decide +kernel) (by decide +kernel)
set_option maxRecDepth 20000 in
theorem gX0_allHours_X0_windyHours : GoodIn wsX0_allHours (wsV RX0 28 RX0 yX0_windyHours wsX0_windyHours) := goodIn_app (goodIn_of _ (by decide +kernel)) ggX0_allHours_X0_windyHours
set_option maxRecDepth 20000 in
theorem ggX0_allHours_X0_calmHours : GoodIn wsX0_allHours wsX0_calmHours := goodIn_r _ [10, 6, 11, 12] (by decide +kernel) (by decide +kernel)
set_option maxRecDepth 20000 in
theorem gX0_allHours_X0_calmHours : GoodIn wsX0_allHours (wsV RX0 32 RX0 yX0_calmHours wsX0_calmHours) := goodIn_app (goodIn_of _ (by decide +kernel)) ggX0_allHours_X0_calmHours
theorem dX0_allHours_0 : decode cX0_allHours 0 = .ok (.aload_n 0, 1) := by decide +kernel
theorem dX0_allHours_1 : decode cX0_allHours 1 = .ok (.iload_n 1, 1) := by decide +kernel
theorem dX0_allHours_2 : decode cX0_allHours 2 = .ok (.invokevirtual 28, 3) := by decide +kernel
theorem dX0_allHours_5 : decode cX0_allHours 5 = .ok (.aload_n 0, 1) := by decide +kernel
theorem dX0_allHours_6 : decode cX0_allHours 6 = .ok (.iload_n 1, 1) := by decide +kernel
theorem dX0_allHours_7 : decode cX0_allHours 7 = .ok (.invokevirtual 32, 3) := by decide +kernel
theorem dX0_allHours_10 : decode cX0_allHours 10 = .ok (.iadd, 1) := by decide +kernel
theorem dX0_allHours_11 : decode cX0_allHours 11 = .ok (.ireturn, 1) := by decide +kernel
set_option maxRecDepth 20000 in
theorem ggX0_hasRoom_X0_allHours : GoodIn wsX0_hasRoom wsX0_allHours := goodIn_r _ [5, 6, 7, 8, 4, 9, 10, 11, 12, 13, 14, 15, 16] (by decide +kernel) (by decide +kernel)
set_option maxRecDepth 20000 in
theorem gX0_hasRoom_X0_allHours : GoodIn wsX0_hasRoom (wsV RX0 35 RX0 yX0_allHours wsX0_allHours) := goodIn_app (goodIn_of _ (by decide +kernel)) ggX0_hasRoom_X0_allHours
theorem dX0_hasRoom_0 : decode cX0_hasRoom 0 = .ok (.aload_n 0, 1) := by decide +kernel
theorem dX0_hasRoom_1 : decode cX0_hasRoom 1 = .ok (.iload_n 1, 1) := by decide +kernel
theorem dX0_hasRoom_2 : decode cX0_hasRoom 2 = .ok (.invokevirtual 35, 3) := by decide +kernel
theorem dX0_hasRoom_5 : decode cX0_hasRoom 5 = .ok (.iload_n 2, 1) := by decide +kernel
theorem dX0_hasRoom_6 : decode cX0_hasRoom 6 = .ok (.iadd, 1) := by decide +kernel
theorem dX0_hasRoom_7 : decode cX0_hasRoom 7 = .ok (.sipush 9999, 3) := by decide +kernel
theorem dX0_hasRoom_10 : decode cX0_hasRoom 10 = .ok (.if_icmp .gt 7, 3) := by decide +kernel
theorem dX0_hasRoom_13 : decode cX0_hasRoom 13 = .ok (.iconst 1, 1) := by decide +kernel
theorem dX0_hasRoom_14 : decode cX0_hasRoom 14 = .ok (.goto 4, 3) := by decide +kernel
theorem dX0_hasRoom_17 : decode cX0_hasRoom 17 = .ok (.iconst 0, 1) := by decide +kernel
theorem dX0_hasRoom_18 : decode cX0_hasRoom 18 = .ok (.ireturn, 1) := by decide +kernel
set_option maxRecDepth 20000 in
theorem ggX0_addWindy_X0_cellOf : GoodIn wsX0_addWindy wsX0_cellOf := goodIn_r _ [5] (by decide +kernel) (by decide +kernel)
set_option maxRecDepth 20000 in
theorem gX0_addWindy_X0_cellOf : GoodIn wsX0_addWindy (va_wsS RX0 24 yX0_cellOf wsX0_cellOf) := goodIn_app (goodIn_of _ (by decide +kernel)) ggX0_addWindy_X0_cellOf
theorem dX0_addWindy_0 : decode cX0_addWindy 0 = .ok (.aload_n 0, 1) := by decide +kernel
theorem dX0_addWindy_1 : decode cX0_addWindy 1 = .ok (.getfield 11, 3) := by decide +kernel
theorem dX0_addWindy_4 : decode cX0_addWindy 4 = .ok (.iload_n 1, 1) := by decide +kernel
theorem dX0_addWindy_5 : decode cX0_addWindy 5 = .ok (.iload_n 2, 1) := by decide +kernel
theorem dX0_addWindy_6 : decode cX0_addWindy 6 = .ok (.iload_n 3, 1) := by decide +kernel
theorem dX0_addWindy_7 : decode cX0_addWindy 7 = .ok (.invokestatic 24, 3) := by decide +kernel
theorem dX0_addWindy_10 : decode cX0_addWindy 10 = .ok (.dup2, 1) := by decide +kernel
theorem dX0_addWindy_11 : decode cX0_addWindy 11 = .ok (.iaload, 1) := by decide +kernel
theorem dX0_addWindy_12 : decode cX0_addWindy 12 = .ok (.iload 4, 2) := by decide +kernel
theorem dX0_addWindy_14 : decode cX0_addWindy 14 = .ok (.iadd, 1) := by decide +kernel
theorem dX0_addWindy_15 : decode cX0_addWindy 15 = .ok (.iastore, 1) := by decide +kernel
theorem dX0_addWindy_16 : decode cX0_addWindy 16 = .ok (.aload_n 0, 1) := by decide +kernel
theorem dX0_addWindy_17 : decode cX0_addWindy 17 = .ok (.getfield 11, 3) := by decide +kernel
theorem dX0_addWindy_20 : decode cX0_addWindy 20 = .ok (.sipush 25344, 3) := by decide +kernel
theorem dX0_addWindy_23 : decode cX0_addWindy 23 = .ok (.iload_n 1, 1) := by decide +kernel
theorem dX0_addWindy_24 : decode cX0_addWindy 24 = .ok (.iadd, 1) := by decide +kernel
theorem dX0_addWindy_25 : decode cX0_addWindy 25 = .ok (.dup2, 1) := by decide +kernel
theorem dX0_addWindy_26 : decode cX0_addWindy 26 = .ok (.iaload, 1) := by decide +kernel
theorem dX0_addWindy_27 : decode cX0_addWindy 27 = .ok (.iload 4, 2) := by decide +kernel
theorem dX0_addWindy_29 : decode cX0_addWindy 29 = .ok (.iadd, 1) := by decide +kernel
theorem dX0_addWindy_30 : decode cX0_addWindy 30 = .ok (.iastore, 1) := by decide +kernel
theorem dX0_addWindy_31 : decode cX0_addWindy 31 = .ok (.return_, 1) := by decide +kernel
theorem dX0_addCalm_0 : decode cX0_addCalm 0 = .ok (.aload_n 0, 1) := by decide +kernel
theorem dX0_addCalm_1 : decode cX0_addCalm 1 = .ok (.getfield 11, 3) := by decide +kernel
theorem dX0_addCalm_4 : decode cX0_addCalm 4 = .ok (.sipush 25360, 3) := by decide +kernel
theorem dX0_addCalm_7 : decode cX0_addCalm 7 = .ok (.iload_n 1, 1) := by decide +kernel
theorem dX0_addCalm_8 : decode cX0_addCalm 8 = .ok (.iadd, 1) := by decide +kernel
theorem dX0_addCalm_9 : decode cX0_addCalm 9 = .ok (.dup2, 1) := by decide +kernel
theorem dX0_addCalm_10 : decode cX0_addCalm 10 = .ok (.iaload, 1) := by decide +kernel
theorem dX0_addCalm_11 : decode cX0_addCalm 11 = .ok (.iload_n 2, 1) := by decide +kernel
theorem dX0_addCalm_12 : decode cX0_addCalm 12 = .ok (.iadd, 1) := by decide +kernel
theorem dX0_addCalm_13 : decode cX0_addCalm 13 = .ok (.iastore, 1) := by decide +kernel
theorem dX0_addCalm_14 : decode cX0_addCalm 14 = .ok (.return_, 1) := by decide +kernel
theorem dX0_turnLog_0 : decode cX0_turnLog 0 = .ok (.iload_n 1, 1) := by decide +kernel
theorem dX0_turnLog_1 : decode cX0_turnLog 1 = .ok (.sipush 1584, 3) := by decide +kernel
theorem dX0_turnLog_4 : decode cX0_turnLog 4 = .ok (.imul, 1) := by decide +kernel
theorem dX0_turnLog_5 : decode cX0_turnLog 5 = .ok (.istore_n 3, 1) := by decide +kernel
theorem dX0_turnLog_6 : decode cX0_turnLog 6 = .ok (.aload_n 0, 1) := by decide +kernel
theorem dX0_turnLog_7 : decode cX0_turnLog 7 = .ok (.getfield 11, 3) := by decide +kernel
theorem dX0_turnLog_10 : decode cX0_turnLog 10 = .ok (.iload_n 3, 1) := by decide +kernel
theorem dX0_turnLog_11 : decode cX0_turnLog 11 = .ok (.aload_n 0, 1) := by decide +kernel
theorem dX0_turnLog_12 : decode cX0_turnLog 12 = .ok (.getfield 15, 3) := by decide +kernel
theorem dX0_turnLog_15 : decode cX0_turnLog 15 = .ok (.iconst 0, 1) := by decide +kernel
theorem dX0_turnLog_16 : decode cX0_turnLog 16 = .ok (.sipush 1584, 3) := by decide +kernel
theorem dX0_turnLog_19 : decode cX0_turnLog 19 = .ok (.invokestatic 18, 3) := by decide +kernel
theorem dX0_turnLog_22 : decode cX0_turnLog 22 = .ok (.iconst 0, 1) := by decide +kernel
theorem dX0_turnLog_23 : decode cX0_turnLog 23 = .ok (.istore 4, 2) := by decide +kernel
theorem dX0_turnLog_25 : decode cX0_turnLog 25 = .ok (.iload 4, 2) := by decide +kernel
theorem dX0_turnLog_27 : decode cX0_turnLog 27 = .ok (.bipush 16, 2) := by decide +kernel
theorem dX0_turnLog_29 : decode cX0_turnLog 29 = .ok (.if_icmp .ge 43, 3) := by decide +kernel
theorem dX0_turnLog_32 : decode cX0_turnLog 32 = .ok (.iload 4, 2) := by decide +kernel
theorem dX0_turnLog_34 : decode cX0_turnLog 34 = .ok (.iload_n 2, 1) := by decide +kernel
theorem dX0_turnLog_35 : decode cX0_turnLog 35 = .ok (.iadd, 1) := by decide +kernel
theorem dX0_turnLog_36 : decode cX0_turnLog 36 = .ok (.bipush 16, 2) := by decide +kernel
theorem dX0_turnLog_38 : decode cX0_turnLog 38 = .ok (.irem, 1) := by decide +kernel
theorem dX0_turnLog_39 : decode cX0_turnLog 39 = .ok (.istore 5, 2) := by decide +kernel
theorem dX0_turnLog_41 : decode cX0_turnLog 41 = .ok (.aload_n 0, 1) := by decide +kernel
theorem dX0_turnLog_42 : decode cX0_turnLog 42 = .ok (.getfield 15, 3) := by decide +kernel
theorem dX0_turnLog_45 : decode cX0_turnLog 45 = .ok (.iload 4, 2) := by decide +kernel
theorem dX0_turnLog_47 : decode cX0_turnLog 47 = .ok (.bipush 99, 2) := by decide +kernel
theorem dX0_turnLog_49 : decode cX0_turnLog 49 = .ok (.imul, 1) := by decide +kernel
theorem dX0_turnLog_50 : decode cX0_turnLog 50 = .ok (.aload_n 0, 1) := by decide +kernel
theorem dX0_turnLog_51 : decode cX0_turnLog 51 = .ok (.getfield 11, 3) := by decide +kernel
theorem dX0_turnLog_54 : decode cX0_turnLog 54 = .ok (.iload_n 3, 1) := by decide +kernel
theorem dX0_turnLog_55 : decode cX0_turnLog 55 = .ok (.iload 5, 2) := by decide +kernel
theorem dX0_turnLog_57 : decode cX0_turnLog 57 = .ok (.bipush 99, 2) := by decide +kernel
theorem dX0_turnLog_59 : decode cX0_turnLog 59 = .ok (.imul, 1) := by decide +kernel
theorem dX0_turnLog_60 : decode cX0_turnLog 60 = .ok (.iadd, 1) := by decide +kernel
theorem dX0_turnLog_61 : decode cX0_turnLog 61 = .ok (.bipush 99, 2) := by decide +kernel
theorem dX0_turnLog_63 : decode cX0_turnLog 63 = .ok (.invokestatic 18, 3) := by decide +kernel
theorem dX0_turnLog_66 : decode cX0_turnLog 66 = .ok (.iinc 4 1, 3) := by decide +kernel
theorem dX0_turnLog_69 : decode cX0_turnLog 69 = .ok (.goto (-44), 3) := by decide +kernel
theorem dX0_turnLog_72 : decode cX0_turnLog 72 = .ok (.return_, 1) := by decide +kernel
theorem dX0_hoursBetween_0 : decode cX0_hoursBetween 0 = .ok (.iload_n 1, 1) := by decide +kernel
theorem dX0_hoursBetween_1 : decode cX0_hoursBetween 1 = .ok (.sipush 1584, 3) := by decide +kernel
theorem dX0_hoursBetween_4 : decode cX0_hoursBetween 4 = .ok (.imul, 1) := by decide +kernel
theorem dX0_hoursBetween_5 : decode cX0_hoursBetween 5 = .ok (.iload_n 2, 1) := by decide +kernel
theorem dX0_hoursBetween_6 : decode cX0_hoursBetween 6 = .ok (.bipush 99, 2) := by decide +kernel
theorem dX0_hoursBetween_8 : decode cX0_hoursBetween 8 = .ok (.imul, 1) := by decide +kernel
theorem dX0_hoursBetween_9 : decode cX0_hoursBetween 9 = .ok (.iadd, 1) := by decide +kernel
theorem dX0_hoursBetween_10 : decode cX0_hoursBetween 10 = .ok (.istore 5, 2) := by decide +kernel
theorem dX0_hoursBetween_12 : decode cX0_hoursBetween 12 = .ok (.iconst 0, 1) := by decide +kernel
theorem dX0_hoursBetween_13 : decode cX0_hoursBetween 13 = .ok (.istore 6, 2) := by decide +kernel
theorem dX0_hoursBetween_15 : decode cX0_hoursBetween 15 = .ok (.iload_n 3, 1) := by decide +kernel
theorem dX0_hoursBetween_16 : decode cX0_hoursBetween 16 = .ok (.istore 7, 2) := by decide +kernel
theorem dX0_hoursBetween_18 : decode cX0_hoursBetween 18 = .ok (.iload 7, 2) := by decide +kernel
theorem dX0_hoursBetween_20 : decode cX0_hoursBetween 20 = .ok (.iload 4, 2) := by decide +kernel
theorem dX0_hoursBetween_22 : decode cX0_hoursBetween 22 = .ok (.if_icmp .ge 26, 3) := by decide +kernel
theorem dX0_hoursBetween_25 : decode cX0_hoursBetween 25 = .ok (.iload 6, 2) := by decide +kernel
theorem dX0_hoursBetween_27 : decode cX0_hoursBetween 27 = .ok (.aload_n 0, 1) := by decide +kernel
theorem dX0_hoursBetween_28 : decode cX0_hoursBetween 28 = .ok (.getfield 11, 3) := by decide +kernel
theorem dX0_hoursBetween_31 : decode cX0_hoursBetween 31 = .ok (.iload 5, 2) := by decide +kernel
theorem dX0_hoursBetween_33 : decode cX0_hoursBetween 33 = .ok (.iload 7, 2) := by decide +kernel
theorem dX0_hoursBetween_35 : decode cX0_hoursBetween 35 = .ok (.iadd, 1) := by decide +kernel
theorem dX0_hoursBetween_36 : decode cX0_hoursBetween 36 = .ok (.iconst 1, 1) := by decide +kernel
theorem dX0_hoursBetween_37 : decode cX0_hoursBetween 37 = .ok (.isub, 1) := by decide +kernel
theorem dX0_hoursBetween_38 : decode cX0_hoursBetween 38 = .ok (.iaload, 1) := by decide +kernel
theorem dX0_hoursBetween_39 : decode cX0_hoursBetween 39 = .ok (.iadd, 1) := by decide +kernel
theorem dX0_hoursBetween_40 : decode cX0_hoursBetween 40 = .ok (.istore 6, 2) := by decide +kernel
theorem dX0_hoursBetween_42 : decode cX0_hoursBetween 42 = .ok (.iinc 7 1, 3) := by decide +kernel
theorem dX0_hoursBetween_45 : decode cX0_hoursBetween 45 = .ok (.goto (-27), 3) := by decide +kernel
theorem dX0_hoursBetween_48 : decode cX0_hoursBetween 48 = .ok (.iload 6, 2) := by decide +kernel
theorem dX0_hoursBetween_50 : decode cX0_hoursBetween 50 = .ok (.ireturn, 1) := by decide +kernel
set_option maxRecDepth 20000 in
theorem ggX0_directionHours_X0_hoursBetween : GoodIn wsX0_directionHours wsX0_hoursBetween := goodIn_r _ [5, 6, 7, 8] (by decide +kernel) (by decide +kernel)
set_option maxRecDepth 20000 in
theorem gX0_directionHours_X0_hoursBetween : GoodIn wsX0_directionHours (wsV RX0 38 RX0 yX0_hoursBetween wsX0_hoursBetween) := goodIn_app (goodIn_of _ (by decide +kernel)) ggX0_directionHours_X0_hoursBetween
theorem dX0_directionHours_0 : decode cX0_directionHours 0 = .ok (.aload_n 0, 1) := by decide +kernel
theorem dX0_directionHours_1 : decode cX0_directionHours 1 = .ok (.iload_n 1, 1) := by decide +kernel
theorem dX0_directionHours_2 : decode cX0_directionHours 2 = .ok (.iload_n 2, 1) := by decide +kernel
theorem dX0_directionHours_3 : decode cX0_directionHours 3 = .ok (.iconst 1, 1) := by decide +kernel
theorem dX0_directionHours_4 : decode cX0_directionHours 4 = .ok (.bipush 100, 2) := by decide +kernel
theorem dX0_directionHours_6 : decode cX0_directionHours 6 = .ok (.invokevirtual 38, 3) := by decide +kernel
theorem dX0_directionHours_9 : decode cX0_directionHours 9 = .ok (.ireturn, 1) := by decide +kernel
set_option maxRecDepth 20000 in
theorem ggX0_partHours_X0_setting : GoodIn wsX0_partHours wsX0_setting := goodIn_r _ [5, 6, 11, 12] (by decide +kernel) (by decide +kernel)
set_option maxRecDepth 20000 in
theorem gX0_partHours_X0_setting : GoodIn wsX0_partHours (wsV RX0 42 RX0 yX0_setting wsX0_setting) := goodIn_app (goodIn_of _ (by decide +kernel)) ggX0_partHours_X0_setting
set_option maxRecDepth 20000 in
theorem ggX0_partHours_X0_hoursBetween : GoodIn wsX0_partHours wsX0_hoursBetween := goodIn_r _ [10, 6, 11, 12] (by decide +kernel) (by decide +kernel)
set_option maxRecDepth 20000 in
theorem gX0_partHours_X0_hoursBetween : GoodIn wsX0_partHours (wsV RX0 38 RX0 yX0_hoursBetween wsX0_hoursBetween) := goodIn_app (goodIn_of _ (by decide +kernel)) ggX0_partHours_X0_hoursBetween
theorem dX0_partHours_0 : decode cX0_partHours 0 = .ok (.iload_n 3, 1) := by decide +kernel
theorem dX0_partHours_1 : decode cX0_partHours 1 = .ok (.ifCond .ne 7, 3) := by decide +kernel
theorem dX0_partHours_4 : decode cX0_partHours 4 = .ok (.iconst 1, 1) := by decide +kernel
theorem dX0_partHours_5 : decode cX0_partHours 5 = .ok (.goto 10, 3) := by decide +kernel
theorem dX0_partHours_8 : decode cX0_partHours 8 = .ok (.aload_n 0, 1) := by decide +kernel
theorem dX0_partHours_9 : decode cX0_partHours 9 = .ok (.iload_n 3, 1) := by decide +kernel
theorem dX0_partHours_10 : decode cX0_partHours 10 = .ok (.iconst 1, 1) := by decide +kernel
theorem dX0_partHours_11 : decode cX0_partHours 11 = .ok (.isub, 1) := by decide +kernel
theorem dX0_partHours_12 : decode cX0_partHours 12 = .ok (.invokevirtual 42, 3) := by decide +kernel
theorem dX0_partHours_15 : decode cX0_partHours 15 = .ok (.istore 4, 2) := by decide +kernel
theorem dX0_partHours_17 : decode cX0_partHours 17 = .ok (.iload_n 3, 1) := by decide +kernel
theorem dX0_partHours_18 : decode cX0_partHours 18 = .ok (.iconst 2, 1) := by decide +kernel
theorem dX0_partHours_19 : decode cX0_partHours 19 = .ok (.if_icmp .ne 8, 3) := by decide +kernel
theorem dX0_partHours_22 : decode cX0_partHours 22 = .ok (.bipush 100, 2) := by decide +kernel
theorem dX0_partHours_24 : decode cX0_partHours 24 = .ok (.goto 8, 3) := by decide +kernel
theorem dX0_partHours_27 : decode cX0_partHours 27 = .ok (.aload_n 0, 1) := by decide +kernel
theorem dX0_partHours_28 : decode cX0_partHours 28 = .ok (.iload_n 3, 1) := by decide +kernel
theorem dX0_partHours_29 : decode cX0_partHours 29 = .ok (.invokevirtual 42, 3) := by decide +kernel
theorem dX0_partHours_32 : decode cX0_partHours 32 = .ok (.istore 5, 2) := by decide +kernel
theorem dX0_partHours_34 : decode cX0_partHours 34 = .ok (.aload_n 0, 1) := by decide +kernel
theorem dX0_partHours_35 : decode cX0_partHours 35 = .ok (.iload_n 1, 1) := by decide +kernel
theorem dX0_partHours_36 : decode cX0_partHours 36 = .ok (.iload_n 2, 1) := by decide +kernel
theorem dX0_partHours_37 : decode cX0_partHours 37 = .ok (.iload 4, 2) := by decide +kernel
theorem dX0_partHours_39 : decode cX0_partHours 39 = .ok (.iload 5, 2) := by decide +kernel
theorem dX0_partHours_41 : decode cX0_partHours 41 = .ok (.invokevirtual 38, 3) := by decide +kernel
theorem dX0_partHours_44 : decode cX0_partHours 44 = .ok (.ireturn, 1) := by decide +kernel
set_option maxRecDepth 20000 in
theorem ggX0_classHours_X0_partHours : GoodIn wsX0_classHours wsX0_partHours := goodIn_r _ [5, 6, 7, 8, 4, 9, 10, 11, 12, 13, 14, 15, 16] (by decide +kernel) (by decide +kernel)
set_option maxRecDepth 20000 in
theorem gX0_classHours_X0_partHours : GoodIn wsX0_classHours (wsV RX0 45 RX0 yX0_partHours wsX0_partHours) := goodIn_app (goodIn_of _ (by decide +kernel)) ggX0_classHours_X0_partHours
theorem dX0_classHours_0 : decode cX0_classHours 0 = .ok (.iconst 0, 1) := by decide +kernel
theorem dX0_classHours_1 : decode cX0_classHours 1 = .ok (.istore_n 3, 1) := by decide +kernel
theorem dX0_classHours_2 : decode cX0_classHours 2 = .ok (.iconst 0, 1) := by decide +kernel
theorem dX0_classHours_3 : decode cX0_classHours 3 = .ok (.istore 4, 2) := by decide +kernel
theorem dX0_classHours_5 : decode cX0_classHours 5 = .ok (.iload 4, 2) := by decide +kernel
theorem dX0_classHours_7 : decode cX0_classHours 7 = .ok (.bipush 16, 2) := by decide +kernel
theorem dX0_classHours_9 : decode cX0_classHours 9 = .ok (.if_icmp .ge 20, 3) := by decide +kernel
theorem dX0_classHours_12 : decode cX0_classHours 12 = .ok (.iload_n 3, 1) := by decide +kernel
theorem dX0_classHours_13 : decode cX0_classHours 13 = .ok (.aload_n 0, 1) := by decide +kernel
theorem dX0_classHours_14 : decode cX0_classHours 14 = .ok (.iload_n 1, 1) := by decide +kernel
theorem dX0_classHours_15 : decode cX0_classHours 15 = .ok (.iload 4, 2) := by decide +kernel
theorem dX0_classHours_17 : decode cX0_classHours 17 = .ok (.iload_n 2, 1) := by decide +kernel
theorem dX0_classHours_18 : decode cX0_classHours 18 = .ok (.invokevirtual 45, 3) := by decide +kernel
theorem dX0_classHours_21 : decode cX0_classHours 21 = .ok (.iadd, 1) := by decide +kernel
theorem dX0_classHours_22 : decode cX0_classHours 22 = .ok (.istore_n 3, 1) := by decide +kernel
theorem dX0_classHours_23 : decode cX0_classHours 23 = .ok (.iinc 4 1, 3) := by decide +kernel
theorem dX0_classHours_26 : decode cX0_classHours 26 = .ok (.goto (-21), 3) := by decide +kernel
theorem dX0_classHours_29 : decode cX0_classHours 29 = .ok (.iload_n 3, 1) := by decide +kernel
theorem dX0_classHours_30 : decode cX0_classHours 30 = .ok (.ireturn, 1) := by decide +kernel
set_option maxRecDepth 20000 in
theorem ggX0_speedHours_X0_hoursAt : GoodIn wsX0_speedHours wsX0_hoursAt := goodIn_r _ [5, 6, 7, 8, 4, 9, 10, 11] (by decide +kernel) (by decide +kernel)
set_option maxRecDepth 20000 in
theorem gX0_speedHours_X0_hoursAt : GoodIn wsX0_speedHours (wsV RX0 48 RX0 yX0_hoursAt wsX0_hoursAt) := goodIn_app (goodIn_of _ (by decide +kernel)) ggX0_speedHours_X0_hoursAt
theorem dX0_speedHours_0 : decode cX0_speedHours 0 = .ok (.iconst 0, 1) := by decide +kernel
theorem dX0_speedHours_1 : decode cX0_speedHours 1 = .ok (.istore_n 3, 1) := by decide +kernel
theorem dX0_speedHours_2 : decode cX0_speedHours 2 = .ok (.iconst 0, 1) := by decide +kernel
theorem dX0_speedHours_3 : decode cX0_speedHours 3 = .ok (.istore 4, 2) := by decide +kernel
theorem dX0_speedHours_5 : decode cX0_speedHours 5 = .ok (.iload 4, 2) := by decide +kernel
theorem dX0_speedHours_7 : decode cX0_speedHours 7 = .ok (.bipush 16, 2) := by decide +kernel
theorem dX0_speedHours_9 : decode cX0_speedHours 9 = .ok (.if_icmp .ge 20, 3) := by decide +kernel
theorem dX0_speedHours_12 : decode cX0_speedHours 12 = .ok (.iload_n 3, 1) := by decide +kernel
theorem dX0_speedHours_13 : decode cX0_speedHours 13 = .ok (.aload_n 0, 1) := by decide +kernel
theorem dX0_speedHours_14 : decode cX0_speedHours 14 = .ok (.iload_n 1, 1) := by decide +kernel
theorem dX0_speedHours_15 : decode cX0_speedHours 15 = .ok (.iload 4, 2) := by decide +kernel
theorem dX0_speedHours_17 : decode cX0_speedHours 17 = .ok (.iload_n 2, 1) := by decide +kernel
theorem dX0_speedHours_18 : decode cX0_speedHours 18 = .ok (.invokevirtual 48, 3) := by decide +kernel
theorem dX0_speedHours_21 : decode cX0_speedHours 21 = .ok (.iadd, 1) := by decide +kernel
theorem dX0_speedHours_22 : decode cX0_speedHours 22 = .ok (.istore_n 3, 1) := by decide +kernel
theorem dX0_speedHours_23 : decode cX0_speedHours 23 = .ok (.iinc 4 1, 3) := by decide +kernel
theorem dX0_speedHours_26 : decode cX0_speedHours 26 = .ok (.goto (-21), 3) := by decide +kernel
theorem dX0_speedHours_29 : decode cX0_speedHours 29 = .ok (.iload_n 3, 1) := by decide +kernel
theorem dX0_speedHours_30 : decode cX0_speedHours 30 = .ok (.ireturn, 1) := by decide +kernel
set_option maxRecDepth 20000 in
theorem ggX0_calmShare_X0_allHours : GoodIn wsX0_calmShare wsX0_allHours := goodIn_r _ [5, 6, 7, 8, 4, 9, 10, 11, 12, 13, 14, 15, 16] (by decide +kernel) (by decide +kernel)
set_option maxRecDepth 20000 in
theorem gX0_calmShare_X0_allHours : GoodIn wsX0_calmShare (wsV RX0 35 RX0 yX0_allHours wsX0_allHours) := goodIn_app (goodIn_of _ (by decide +kernel)) ggX0_calmShare_X0_allHours
set_option maxRecDepth 20000 in
theorem ggX0_calmShare_X0_calmHours : GoodIn wsX0_calmShare wsX0_calmHours := goodIn_r _ [14, 10, 15, 16] (by decide +kernel) (by decide +kernel)
set_option maxRecDepth 20000 in
theorem gX0_calmShare_X0_calmHours : GoodIn wsX0_calmShare (wsV RX0 32 RX0 yX0_calmHours wsX0_calmHours) := goodIn_app (goodIn_of _ (by decide +kernel)) ggX0_calmShare_X0_calmHours
theorem dX0_calmShare_0 : decode cX0_calmShare 0 = .ok (.aload_n 0, 1) := by decide +kernel
theorem dX0_calmShare_1 : decode cX0_calmShare 1 = .ok (.iload_n 1, 1) := by decide +kernel
theorem dX0_calmShare_2 : decode cX0_calmShare 2 = .ok (.invokevirtual 35, 3) := by decide +kernel
theorem dX0_calmShare_5 : decode cX0_calmShare 5 = .ok (.istore_n 2, 1) := by decide +kernel
theorem dX0_calmShare_6 : decode cX0_calmShare 6 = .ok (.iload_n 2, 1) := by decide +kernel
theorem dX0_calmShare_7 : decode cX0_calmShare 7 = .ok (.ifCond .le 16, 3) := by decide +kernel
theorem dX0_calmShare_10 : decode cX0_calmShare 10 = .ok (.bipush 100, 2) := by decide +kernel
theorem dX0_calmShare_12 : decode cX0_calmShare 12 = .ok (.aload_n 0, 1) := by decide +kernel
theorem dX0_calmShare_13 : decode cX0_calmShare 13 = .ok (.iload_n 1, 1) := by decide +kernel
theorem dX0_calmShare_14 : decode cX0_calmShare 14 = .ok (.invokevirtual 32, 3) := by decide +kernel
theorem dX0_calmShare_17 : decode cX0_calmShare 17 = .ok (.imul, 1) := by decide +kernel
theorem dX0_calmShare_18 : decode cX0_calmShare 18 = .ok (.iload_n 2, 1) := by decide +kernel
theorem dX0_calmShare_19 : decode cX0_calmShare 19 = .ok (.idiv, 1) := by decide +kernel
theorem dX0_calmShare_20 : decode cX0_calmShare 20 = .ok (.goto 4, 3) := by decide +kernel
theorem dX0_calmShare_23 : decode cX0_calmShare 23 = .ok (.iconst 0, 1) := by decide +kernel
theorem dX0_calmShare_24 : decode cX0_calmShare 24 = .ok (.ireturn, 1) := by decide +kernel
theorem dX0_sumOfRoses_0 : decode cX0_sumOfRoses 0 = .ok (.iconst 0, 1) := by decide +kernel
theorem dX0_sumOfRoses_1 : decode cX0_sumOfRoses 1 = .ok (.istore_n 2, 1) := by decide +kernel
theorem dX0_sumOfRoses_2 : decode cX0_sumOfRoses 2 = .ok (.iconst 0, 1) := by decide +kernel
theorem dX0_sumOfRoses_3 : decode cX0_sumOfRoses 3 = .ok (.istore_n 3, 1) := by decide +kernel
theorem dX0_sumOfRoses_4 : decode cX0_sumOfRoses 4 = .ok (.iload_n 3, 1) := by decide +kernel
theorem dX0_sumOfRoses_5 : decode cX0_sumOfRoses 5 = .ok (.bipush 16, 2) := by decide +kernel
theorem dX0_sumOfRoses_7 : decode cX0_sumOfRoses 7 = .ok (.if_icmp .ge 20, 3) := by decide +kernel
theorem dX0_sumOfRoses_10 : decode cX0_sumOfRoses 10 = .ok (.iload_n 2, 1) := by decide +kernel
theorem dX0_sumOfRoses_11 : decode cX0_sumOfRoses 11 = .ok (.aload_n 0, 1) := by decide +kernel
theorem dX0_sumOfRoses_12 : decode cX0_sumOfRoses 12 = .ok (.getfield 11, 3) := by decide +kernel
theorem dX0_sumOfRoses_15 : decode cX0_sumOfRoses 15 = .ok (.iload_n 1, 1) := by decide +kernel
theorem dX0_sumOfRoses_16 : decode cX0_sumOfRoses 16 = .ok (.iload_n 3, 1) := by decide +kernel
theorem dX0_sumOfRoses_17 : decode cX0_sumOfRoses 17 = .ok (.iadd, 1) := by decide +kernel
theorem dX0_sumOfRoses_18 : decode cX0_sumOfRoses 18 = .ok (.iaload, 1) := by decide +kernel
theorem dX0_sumOfRoses_19 : decode cX0_sumOfRoses 19 = .ok (.iadd, 1) := by decide +kernel
theorem dX0_sumOfRoses_20 : decode cX0_sumOfRoses 20 = .ok (.istore_n 2, 1) := by decide +kernel
theorem dX0_sumOfRoses_21 : decode cX0_sumOfRoses 21 = .ok (.iinc 3 1, 3) := by decide +kernel
theorem dX0_sumOfRoses_24 : decode cX0_sumOfRoses 24 = .ok (.goto (-20), 3) := by decide +kernel
theorem dX0_sumOfRoses_27 : decode cX0_sumOfRoses 27 = .ok (.iload_n 2, 1) := by decide +kernel
theorem dX0_sumOfRoses_28 : decode cX0_sumOfRoses 28 = .ok (.ireturn, 1) := by decide +kernel
set_option maxRecDepth 20000 in
theorem ggX0_hoursOfAll_X0_sumOfRoses : GoodIn wsX0_hoursOfAll wsX0_sumOfRoses := goodIn_r _ [5, 6, 7, 8] (by decide +kernel) (by decide +kernel)
set_option maxRecDepth 20000 in
theorem gX0_hoursOfAll_X0_sumOfRoses : GoodIn wsX0_hoursOfAll (wsV RX0 51 RX0 yX0_sumOfRoses wsX0_sumOfRoses) := goodIn_app (goodIn_of _ (by decide +kernel)) ggX0_hoursOfAll_X0_sumOfRoses
theorem dX0_hoursOfAll_0 : decode cX0_hoursOfAll 0 = .ok (.aload_n 0, 1) := by decide +kernel
theorem dX0_hoursOfAll_1 : decode cX0_hoursOfAll 1 = .ok (.sipush 25344, 3) := by decide +kernel
theorem dX0_hoursOfAll_4 : decode cX0_hoursOfAll 4 = .ok (.invokevirtual 51, 3) := by decide +kernel
theorem dX0_hoursOfAll_7 : decode cX0_hoursOfAll 7 = .ok (.aload_n 0, 1) := by decide +kernel
theorem dX0_hoursOfAll_8 : decode cX0_hoursOfAll 8 = .ok (.sipush 25360, 3) := by decide +kernel
theorem dX0_hoursOfAll_11 : decode cX0_hoursOfAll 11 = .ok (.invokevirtual 51, 3) := by decide +kernel
theorem dX0_hoursOfAll_14 : decode cX0_hoursOfAll 14 = .ok (.iadd, 1) := by decide +kernel
theorem dX0_hoursOfAll_15 : decode cX0_hoursOfAll 15 = .ok (.ireturn, 1) := by decide +kernel
set_option maxRecDepth 20000 in
theorem ggX0_calmHoursOfAll_X0_sumOfRoses : GoodIn wsX0_calmHoursOfAll wsX0_sumOfRoses := goodIn_r _ [5, 6, 7, 8] (by decide +kernel) (by decide +kernel)
set_option maxRecDepth 20000 in
theorem gX0_calmHoursOfAll_X0_sumOfRoses : GoodIn wsX0_calmHoursOfAll (wsV RX0 51 RX0 yX0_sumOfRoses wsX0_sumOfRoses) := goodIn_app (goodIn_of _ (by decide +kernel)) ggX0_calmHoursOfAll_X0_sumOfRoses
theorem dX0_calmHoursOfAll_0 : decode cX0_calmHoursOfAll 0 = .ok (.aload_n 0, 1) := by decide +kernel
theorem dX0_calmHoursOfAll_1 : decode cX0_calmHoursOfAll 1 = .ok (.sipush 25360, 3) := by decide +kernel
theorem dX0_calmHoursOfAll_4 : decode cX0_calmHoursOfAll 4 = .ok (.invokevirtual 51, 3) := by decide +kernel
theorem dX0_calmHoursOfAll_7 : decode cX0_calmHoursOfAll 7 = .ok (.ireturn, 1) := by decide +kernel
set_option maxRecDepth 20000 in
theorem ggX0_scrapesOfAll_X0_sumOfRoses : GoodIn wsX0_scrapesOfAll wsX0_sumOfRoses := goodIn_r _ [5, 6, 7, 8] (by decide +kernel) (by decide +kernel)
set_option maxRecDepth 20000 in
theorem gX0_scrapesOfAll_X0_sumOfRoses : GoodIn wsX0_scrapesOfAll (wsV RX0 51 RX0 yX0_sumOfRoses wsX0_sumOfRoses) := goodIn_app (goodIn_of _ (by decide +kernel)) ggX0_scrapesOfAll_X0_sumOfRoses
theorem dX0_scrapesOfAll_0 : decode cX0_scrapesOfAll 0 = .ok (.aload_n 0, 1) := by decide +kernel
theorem dX0_scrapesOfAll_1 : decode cX0_scrapesOfAll 1 = .ok (.sipush 26160, 3) := by decide +kernel
theorem dX0_scrapesOfAll_4 : decode cX0_scrapesOfAll 4 = .ok (.invokevirtual 51, 3) := by decide +kernel
theorem dX0_scrapesOfAll_7 : decode cX0_scrapesOfAll 7 = .ok (.ireturn, 1) := by decide +kernel
theorem dX0_setting_0 : decode cX0_setting 0 = .ok (.aload_n 0, 1) := by decide +kernel
theorem dX0_setting_1 : decode cX0_setting 1 = .ok (.getfield 11, 3) := by decide +kernel
theorem dX0_setting_4 : decode cX0_setting 4 = .ok (.sipush 26176, 3) := by decide +kernel
theorem dX0_setting_7 : decode cX0_setting 7 = .ok (.iload_n 1, 1) := by decide +kernel
theorem dX0_setting_8 : decode cX0_setting 8 = .ok (.iadd, 1) := by decide +kernel
theorem dX0_setting_9 : decode cX0_setting 9 = .ok (.iaload, 1) := by decide +kernel
theorem dX0_setting_10 : decode cX0_setting 10 = .ok (.ireturn, 1) := by decide +kernel
theorem dX0_putSetting_0 : decode cX0_putSetting 0 = .ok (.aload_n 0, 1) := by decide +kernel
theorem dX0_putSetting_1 : decode cX0_putSetting 1 = .ok (.getfield 11, 3) := by decide +kernel
theorem dX0_putSetting_4 : decode cX0_putSetting 4 = .ok (.sipush 26176, 3) := by decide +kernel
theorem dX0_putSetting_7 : decode cX0_putSetting 7 = .ok (.iload_n 1, 1) := by decide +kernel
theorem dX0_putSetting_8 : decode cX0_putSetting 8 = .ok (.iadd, 1) := by decide +kernel
theorem dX0_putSetting_9 : decode cX0_putSetting 9 = .ok (.iload_n 2, 1) := by decide +kernel
theorem dX0_putSetting_10 : decode cX0_putSetting 10 = .ok (.iastore, 1) := by decide +kernel
theorem dX0_putSetting_11 : decode cX0_putSetting 11 = .ok (.return_, 1) := by decide +kernel
theorem dX0_circle_0 : decode cX0_circle 0 = .ok (.aload_n 0, 1) := by decide +kernel
theorem dX0_circle_1 : decode cX0_circle 1 = .ok (.getfield 11, 3) := by decide +kernel
theorem dX0_circle_4 : decode cX0_circle 4 = .ok (.sipush 26144, 3) := by decide +kernel
theorem dX0_circle_7 : decode cX0_circle 7 = .ok (.iload_n 1, 1) := by decide +kernel
theorem dX0_circle_8 : decode cX0_circle 8 = .ok (.iadd, 1) := by decide +kernel
theorem dX0_circle_9 : decode cX0_circle 9 = .ok (.iaload, 1) := by decide +kernel
theorem dX0_circle_10 : decode cX0_circle 10 = .ok (.ireturn, 1) := by decide +kernel
theorem dX0_scrapes_0 : decode cX0_scrapes 0 = .ok (.aload_n 0, 1) := by decide +kernel
theorem dX0_scrapes_1 : decode cX0_scrapes 1 = .ok (.getfield 11, 3) := by decide +kernel
theorem dX0_scrapes_4 : decode cX0_scrapes 4 = .ok (.sipush 26160, 3) := by decide +kernel
theorem dX0_scrapes_7 : decode cX0_scrapes 7 = .ok (.iload_n 1, 1) := by decide +kernel
theorem dX0_scrapes_8 : decode cX0_scrapes 8 = .ok (.iadd, 1) := by decide +kernel
theorem dX0_scrapes_9 : decode cX0_scrapes 9 = .ok (.iaload, 1) := by decide +kernel
theorem dX0_scrapes_10 : decode cX0_scrapes 10 = .ok (.ireturn, 1) := by decide +kernel
theorem dX0_petalLength_0 : decode cX0_petalLength 0 = .ok (.aload_n 0, 1) := by decide +kernel
theorem dX0_petalLength_1 : decode cX0_petalLength 1 = .ok (.getfield 11, 3) := by decide +kernel
theorem dX0_petalLength_4 : decode cX0_petalLength 4 = .ok (.sipush 25376, 3) := by decide +kernel
theorem dX0_petalLength_7 : decode cX0_petalLength 7 = .ok (.iload_n 1, 1) := by decide +kernel
theorem dX0_petalLength_8 : decode cX0_petalLength 8 = .ok (.bipush 48, 2) := by decide +kernel
theorem dX0_petalLength_10 : decode cX0_petalLength 10 = .ok (.imul, 1) := by decide +kernel
theorem dX0_petalLength_11 : decode cX0_petalLength 11 = .ok (.iadd, 1) := by decide +kernel
theorem dX0_petalLength_12 : decode cX0_petalLength 12 = .ok (.iload_n 2, 1) := by decide +kernel
theorem dX0_petalLength_13 : decode cX0_petalLength 13 = .ok (.iadd, 1) := by decide +kernel
theorem dX0_petalLength_14 : decode cX0_petalLength 14 = .ok (.iaload, 1) := by decide +kernel
theorem dX0_petalLength_15 : decode cX0_petalLength 15 = .ok (.ireturn, 1) := by decide +kernel
set_option maxRecDepth 20000 in
theorem ggX0_petalsCut_X0_petalLength : GoodIn wsX0_petalsCut wsX0_petalLength := goodIn_r _ [5, 6, 7, 8] (by decide +kernel) (by decide +kernel)
set_option maxRecDepth 20000 in
theorem gX0_petalsCut_X0_petalLength : GoodIn wsX0_petalsCut (wsV RX0 54 RX0 yX0_petalLength wsX0_petalLength) := goodIn_app (goodIn_of _ (by decide +kernel)) ggX0_petalsCut_X0_petalLength
theorem dX0_petalsCut_0 : decode cX0_petalsCut 0 = .ok (.iconst 0, 1) := by decide +kernel
theorem dX0_petalsCut_1 : decode cX0_petalsCut 1 = .ok (.istore_n 2, 1) := by decide +kernel
theorem dX0_petalsCut_2 : decode cX0_petalsCut 2 = .ok (.iconst 0, 1) := by decide +kernel
theorem dX0_petalsCut_3 : decode cX0_petalsCut 3 = .ok (.istore_n 3, 1) := by decide +kernel
theorem dX0_petalsCut_4 : decode cX0_petalsCut 4 = .ok (.iload_n 3, 1) := by decide +kernel
theorem dX0_petalsCut_5 : decode cX0_petalsCut 5 = .ok (.bipush 48, 2) := by decide +kernel
theorem dX0_petalsCut_7 : decode cX0_petalsCut 7 = .ok (.if_icmp .ge 21, 3) := by decide +kernel
theorem dX0_petalsCut_10 : decode cX0_petalsCut 10 = .ok (.aload_n 0, 1) := by decide +kernel
theorem dX0_petalsCut_11 : decode cX0_petalsCut 11 = .ok (.iload_n 1, 1) := by decide +kernel
theorem dX0_petalsCut_12 : decode cX0_petalsCut 12 = .ok (.iload_n 3, 1) := by decide +kernel
theorem dX0_petalsCut_13 : decode cX0_petalsCut 13 = .ok (.invokevirtual 54, 3) := by decide +kernel
theorem dX0_petalsCut_16 : decode cX0_petalsCut 16 = .ok (.ifCond .le 6, 3) := by decide +kernel
theorem dX0_petalsCut_19 : decode cX0_petalsCut 19 = .ok (.iinc 2 1, 3) := by decide +kernel
theorem dX0_petalsCut_22 : decode cX0_petalsCut 22 = .ok (.iinc 3 1, 3) := by decide +kernel
theorem dX0_petalsCut_25 : decode cX0_petalsCut 25 = .ok (.goto (-21), 3) := by decide +kernel
theorem dX0_petalsCut_28 : decode cX0_petalsCut 28 = .ok (.iload_n 2, 1) := by decide +kernel
theorem dX0_petalsCut_29 : decode cX0_petalsCut 29 = .ok (.ireturn, 1) := by decide +kernel
set_option maxRecDepth 20000 in
theorem ggX0_longestPetal_X0_petalLength : GoodIn wsX0_longestPetal wsX0_petalLength := goodIn_r _ [9, 10, 11, 12] (by decide +kernel) (by decide +kernel)
set_option maxRecDepth 20000 in
theorem gX0_longestPetal_X0_petalLength : GoodIn wsX0_longestPetal (wsV RX0 54 RX0 yX0_petalLength wsX0_petalLength) := goodIn_app (goodIn_of _ (by decide +kernel)) ggX0_longestPetal_X0_petalLength
theorem dX0_longestPetal_0 : decode cX0_longestPetal 0 = .ok (.iconst 0, 1) := by decide +kernel
theorem dX0_longestPetal_1 : decode cX0_longestPetal 1 = .ok (.istore_n 2, 1) := by decide +kernel
theorem dX0_longestPetal_2 : decode cX0_longestPetal 2 = .ok (.iconst 0, 1) := by decide +kernel
theorem dX0_longestPetal_3 : decode cX0_longestPetal 3 = .ok (.istore_n 3, 1) := by decide +kernel
theorem dX0_longestPetal_4 : decode cX0_longestPetal 4 = .ok (.iload_n 3, 1) := by decide +kernel
theorem dX0_longestPetal_5 : decode cX0_longestPetal 5 = .ok (.bipush 48, 2) := by decide +kernel
theorem dX0_longestPetal_7 : decode cX0_longestPetal 7 = .ok (.if_icmp .ge 20, 3) := by decide +kernel
theorem dX0_longestPetal_10 : decode cX0_longestPetal 10 = .ok (.iload_n 2, 1) := by decide +kernel
theorem dX0_longestPetal_11 : decode cX0_longestPetal 11 = .ok (.aload_n 0, 1) := by decide +kernel
theorem dX0_longestPetal_12 : decode cX0_longestPetal 12 = .ok (.iload_n 1, 1) := by decide +kernel
theorem dX0_longestPetal_13 : decode cX0_longestPetal 13 = .ok (.iload_n 3, 1) := by decide +kernel
theorem dX0_longestPetal_14 : decode cX0_longestPetal 14 = .ok (.invokevirtual 54, 3) := by decide +kernel
theorem dX0_longestPetal_17 : decode cX0_longestPetal 17 = .ok (.invokestatic 58, 3) := by decide +kernel
theorem dX0_longestPetal_20 : decode cX0_longestPetal 20 = .ok (.istore_n 2, 1) := by decide +kernel
theorem dX0_longestPetal_21 : decode cX0_longestPetal 21 = .ok (.iinc 3 1, 3) := by decide +kernel
theorem dX0_longestPetal_24 : decode cX0_longestPetal 24 = .ok (.goto (-20), 3) := by decide +kernel
theorem dX0_longestPetal_27 : decode cX0_longestPetal 27 = .ok (.iload_n 2, 1) := by decide +kernel
theorem dX0_longestPetal_28 : decode cX0_longestPetal 28 = .ok (.ireturn, 1) := by decide +kernel
set_option maxRecDepth 20000 in
theorem ggX0_cut_X0_calmShare : GoodIn wsX0_cut wsX0_calmShare := goodIn_r _ [11, 12, 13, 14, 10, 15, 16, 17, 18, 19, 2, 20, 21, 22, 23, 28, 29] (by decide +kernel) (by decide +kernel)
set_option maxRecDepth 20000 in
theorem gX0_cut_X0_calmShare : GoodIn wsX0_cut (wsV RX0 66 RX0 yX0_calmShare wsX0_calmShare) := goodIn_app (goodIn_of _ (by decide +kernel)) ggX0_cut_X0_calmShare
theorem dX0_cut_0 : decode cX0_cut 0 = .ok (.aload_n 2, 1) := by decide +kernel
theorem dX0_cut_1 : decode cX0_cut 1 = .ok (.getfield 63, 3) := by decide +kernel
theorem dX0_cut_4 : decode cX0_cut 4 = .ok (.iconst 0, 1) := by decide +kernel
theorem dX0_cut_5 : decode cX0_cut 5 = .ok (.aload_n 0, 1) := by decide +kernel
theorem dX0_cut_6 : decode cX0_cut 6 = .ok (.getfield 11, 3) := by decide +kernel
theorem dX0_cut_9 : decode cX0_cut 9 = .ok (.sipush 25376, 3) := by decide +kernel
theorem dX0_cut_12 : decode cX0_cut 12 = .ok (.iload_n 1, 1) := by decide +kernel
theorem dX0_cut_13 : decode cX0_cut 13 = .ok (.bipush 48, 2) := by decide +kernel
theorem dX0_cut_15 : decode cX0_cut 15 = .ok (.imul, 1) := by decide +kernel
theorem dX0_cut_16 : decode cX0_cut 16 = .ok (.iadd, 1) := by decide +kernel
theorem dX0_cut_17 : decode cX0_cut 17 = .ok (.bipush 48, 2) := by decide +kernel
theorem dX0_cut_19 : decode cX0_cut 19 = .ok (.invokestatic 18, 3) := by decide +kernel
theorem dX0_cut_22 : decode cX0_cut 22 = .ok (.aload_n 0, 1) := by decide +kernel
theorem dX0_cut_23 : decode cX0_cut 23 = .ok (.getfield 11, 3) := by decide +kernel
theorem dX0_cut_26 : decode cX0_cut 26 = .ok (.sipush 26144, 3) := by decide +kernel
theorem dX0_cut_29 : decode cX0_cut 29 = .ok (.iload_n 1, 1) := by decide +kernel
theorem dX0_cut_30 : decode cX0_cut 30 = .ok (.iadd, 1) := by decide +kernel
theorem dX0_cut_31 : decode cX0_cut 31 = .ok (.aload_n 0, 1) := by decide +kernel
theorem dX0_cut_32 : decode cX0_cut 32 = .ok (.iload_n 1, 1) := by decide +kernel
theorem dX0_cut_33 : decode cX0_cut 33 = .ok (.invokevirtual 66, 3) := by decide +kernel
theorem dX0_cut_36 : decode cX0_cut 36 = .ok (.iastore, 1) := by decide +kernel
theorem dX0_cut_37 : decode cX0_cut 37 = .ok (.aload_n 0, 1) := by decide +kernel
theorem dX0_cut_38 : decode cX0_cut 38 = .ok (.getfield 11, 3) := by decide +kernel
theorem dX0_cut_41 : decode cX0_cut 41 = .ok (.sipush 26160, 3) := by decide +kernel
theorem dX0_cut_44 : decode cX0_cut 44 = .ok (.iload_n 1, 1) := by decide +kernel
theorem dX0_cut_45 : decode cX0_cut 45 = .ok (.iadd, 1) := by decide +kernel
theorem dX0_cut_46 : decode cX0_cut 46 = .ok (.dup2, 1) := by decide +kernel
theorem dX0_cut_47 : decode cX0_cut 47 = .ok (.iaload, 1) := by decide +kernel
theorem dX0_cut_48 : decode cX0_cut 48 = .ok (.iload_n 3, 1) := by decide +kernel
theorem dX0_cut_49 : decode cX0_cut 49 = .ok (.iadd, 1) := by decide +kernel
theorem dX0_cut_50 : decode cX0_cut 50 = .ok (.iastore, 1) := by decide +kernel
theorem dX0_cut_51 : decode cX0_cut 51 = .ok (.aload_n 0, 1) := by decide +kernel
theorem dX0_cut_52 : decode cX0_cut 52 = .ok (.getfield 11, 3) := by decide +kernel
theorem dX0_cut_55 : decode cX0_cut 55 = .ok (.sipush 26179, 3) := by decide +kernel
theorem dX0_cut_58 : decode cX0_cut 58 = .ok (.dup2, 1) := by decide +kernel
theorem dX0_cut_59 : decode cX0_cut 59 = .ok (.iaload, 1) := by decide +kernel
theorem dX0_cut_60 : decode cX0_cut 60 = .ok (.iconst 1, 1) := by decide +kernel
theorem dX0_cut_61 : decode cX0_cut 61 = .ok (.iadd, 1) := by decide +kernel
theorem dX0_cut_62 : decode cX0_cut 62 = .ok (.iastore, 1) := by decide +kernel
theorem dX0_cut_63 : decode cX0_cut 63 = .ok (.return_, 1) := by decide +kernel
set_option maxRecDepth 20000 in
theorem ggX0_isNewPlate_X0_petalsCut : GoodIn wsX0_isNewPlate wsX0_petalsCut := goodIn_r _ [5, 6, 7, 8, 4, 9, 10, 19, 20] (by decide +kernel) (by decide +kernel)
set_option maxRecDepth 20000 in
theorem gX0_isNewPlate_X0_petalsCut : GoodIn wsX0_isNewPlate (wsV RX0 69 RX0 yX0_petalsCut wsX0_petalsCut) := goodIn_app (goodIn_of _ (by decide +kernel)) ggX0_isNewPlate_X0_petalsCut
set_option maxRecDepth 20000 in
theorem ggX0_isNewPlate_X0_circle : GoodIn wsX0_isNewPlate wsX0_circle := goodIn_r _ [14, 10, 19, 20] (by decide +kernel) (by decide +kernel)
set_option maxRecDepth 20000 in
theorem gX0_isNewPlate_X0_circle : GoodIn wsX0_isNewPlate (wsV RX0 72 RX0 yX0_circle wsX0_circle) := goodIn_app (goodIn_of _ (by decide +kernel)) ggX0_isNewPlate_X0_circle
set_option maxRecDepth 20000 in
theorem ggX0_isNewPlate_X0_scrapes : GoodIn wsX0_isNewPlate wsX0_scrapes := goodIn_r _ [18, 10, 19, 20] (by decide +kernel) (by decide +kernel)
set_option maxRecDepth 20000 in
theorem gX0_isNewPlate_X0_scrapes : GoodIn wsX0_isNewPlate (wsV RX0 75 RX0 yX0_scrapes wsX0_scrapes) := goodIn_app (goodIn_of _ (by decide +kernel)) ggX0_isNewPlate_X0_scrapes
theorem dX0_isNewPlate_0 : decode cX0_isNewPlate 0 = .ok (.aload_n 0, 1) := by decide +kernel
theorem dX0_isNewPlate_1 : decode cX0_isNewPlate 1 = .ok (.iload_n 1, 1) := by decide +kernel
theorem dX0_isNewPlate_2 : decode cX0_isNewPlate 2 = .ok (.invokevirtual 69, 3) := by decide +kernel
theorem dX0_isNewPlate_5 : decode cX0_isNewPlate 5 = .ok (.ifCond .ne 23, 3) := by decide +kernel
theorem dX0_isNewPlate_8 : decode cX0_isNewPlate 8 = .ok (.aload_n 0, 1) := by decide +kernel
theorem dX0_isNewPlate_9 : decode cX0_isNewPlate 9 = .ok (.iload_n 1, 1) := by decide +kernel
theorem dX0_isNewPlate_10 : decode cX0_isNewPlate 10 = .ok (.invokevirtual 72, 3) := by decide +kernel
theorem dX0_isNewPlate_13 : decode cX0_isNewPlate 13 = .ok (.ifCond .ne 15, 3) := by decide +kernel
theorem dX0_isNewPlate_16 : decode cX0_isNewPlate 16 = .ok (.aload_n 0, 1) := by decide +kernel
theorem dX0_isNewPlate_17 : decode cX0_isNewPlate 17 = .ok (.iload_n 1, 1) := by decide +kernel
theorem dX0_isNewPlate_18 : decode cX0_isNewPlate 18 = .ok (.invokevirtual 75, 3) := by decide +kernel
theorem dX0_isNewPlate_21 : decode cX0_isNewPlate 21 = .ok (.ifCond .ne 7, 3) := by decide +kernel
theorem dX0_isNewPlate_24 : decode cX0_isNewPlate 24 = .ok (.iconst 1, 1) := by decide +kernel
theorem dX0_isNewPlate_25 : decode cX0_isNewPlate 25 = .ok (.goto 4, 3) := by decide +kernel
theorem dX0_isNewPlate_28 : decode cX0_isNewPlate 28 = .ok (.iconst 0, 1) := by decide +kernel
theorem dX0_isNewPlate_29 : decode cX0_isNewPlate 29 = .ok (.ireturn, 1) := by decide +kernel
theorem dX0_putNewPlate_0 : decode cX0_putNewPlate 0 = .ok (.iconst 0, 1) := by decide +kernel
theorem dX0_putNewPlate_1 : decode cX0_putNewPlate 1 = .ok (.istore_n 2, 1) := by decide +kernel
theorem dX0_putNewPlate_2 : decode cX0_putNewPlate 2 = .ok (.iload_n 2, 1) := by decide +kernel
theorem dX0_putNewPlate_3 : decode cX0_putNewPlate 3 = .ok (.bipush 48, 2) := by decide +kernel
theorem dX0_putNewPlate_5 : decode cX0_putNewPlate 5 = .ok (.if_icmp .ge 25, 3) := by decide +kernel
theorem dX0_putNewPlate_8 : decode cX0_putNewPlate 8 = .ok (.aload_n 0, 1) := by decide +kernel
theorem dX0_putNewPlate_9 : decode cX0_putNewPlate 9 = .ok (.getfield 11, 3) := by decide +kernel
theorem dX0_putNewPlate_12 : decode cX0_putNewPlate 12 = .ok (.sipush 25376, 3) := by decide +kernel
theorem dX0_putNewPlate_15 : decode cX0_putNewPlate 15 = .ok (.iload_n 1, 1) := by decide +kernel
theorem dX0_putNewPlate_16 : decode cX0_putNewPlate 16 = .ok (.bipush 48, 2) := by decide +kernel
theorem dX0_putNewPlate_18 : decode cX0_putNewPlate 18 = .ok (.imul, 1) := by decide +kernel
theorem dX0_putNewPlate_19 : decode cX0_putNewPlate 19 = .ok (.iadd, 1) := by decide +kernel
theorem dX0_putNewPlate_20 : decode cX0_putNewPlate 20 = .ok (.iload_n 2, 1) := by decide +kernel
theorem dX0_putNewPlate_21 : decode cX0_putNewPlate 21 = .ok (.iadd, 1) := by decide +kernel
theorem dX0_putNewPlate_22 : decode cX0_putNewPlate 22 = .ok (.iconst 0, 1) := by decide +kernel
theorem dX0_putNewPlate_23 : decode cX0_putNewPlate 23 = .ok (.iastore, 1) := by decide +kernel
theorem dX0_putNewPlate_24 : decode cX0_putNewPlate 24 = .ok (.iinc 2 1, 3) := by decide +kernel
theorem dX0_putNewPlate_27 : decode cX0_putNewPlate 27 = .ok (.goto (-25), 3) := by decide +kernel
theorem dX0_putNewPlate_30 : decode cX0_putNewPlate 30 = .ok (.aload_n 0, 1) := by decide +kernel
theorem dX0_putNewPlate_31 : decode cX0_putNewPlate 31 = .ok (.getfield 11, 3) := by decide +kernel
theorem dX0_putNewPlate_34 : decode cX0_putNewPlate 34 = .ok (.sipush 26144, 3) := by decide +kernel
theorem dX0_putNewPlate_37 : decode cX0_putNewPlate 37 = .ok (.iload_n 1, 1) := by decide +kernel
theorem dX0_putNewPlate_38 : decode cX0_putNewPlate 38 = .ok (.iadd, 1) := by decide +kernel
theorem dX0_putNewPlate_39 : decode cX0_putNewPlate 39 = .ok (.iconst 0, 1) := by decide +kernel
theorem dX0_putNewPlate_40 : decode cX0_putNewPlate 40 = .ok (.iastore, 1) := by decide +kernel
theorem dX0_putNewPlate_41 : decode cX0_putNewPlate 41 = .ok (.aload_n 0, 1) := by decide +kernel
theorem dX0_putNewPlate_42 : decode cX0_putNewPlate 42 = .ok (.getfield 11, 3) := by decide +kernel
theorem dX0_putNewPlate_45 : decode cX0_putNewPlate 45 = .ok (.sipush 26160, 3) := by decide +kernel
theorem dX0_putNewPlate_48 : decode cX0_putNewPlate 48 = .ok (.iload_n 1, 1) := by decide +kernel
theorem dX0_putNewPlate_49 : decode cX0_putNewPlate 49 = .ok (.iadd, 1) := by decide +kernel
theorem dX0_putNewPlate_50 : decode cX0_putNewPlate 50 = .ok (.iconst 0, 1) := by decide +kernel
theorem dX0_putNewPlate_51 : decode cX0_putNewPlate 51 = .ok (.iastore, 1) := by decide +kernel
theorem dX0_putNewPlate_52 : decode cX0_putNewPlate 52 = .ok (.aload_n 0, 1) := by decide +kernel
theorem dX0_putNewPlate_53 : decode cX0_putNewPlate 53 = .ok (.getfield 11, 3) := by decide +kernel
theorem dX0_putNewPlate_56 : decode cX0_putNewPlate 56 = .ok (.sipush 26180, 3) := by decide +kernel
theorem dX0_putNewPlate_59 : decode cX0_putNewPlate 59 = .ok (.dup2, 1) := by decide +kernel
theorem dX0_putNewPlate_60 : decode cX0_putNewPlate 60 = .ok (.iaload, 1) := by decide +kernel
theorem dX0_putNewPlate_61 : decode cX0_putNewPlate 61 = .ok (.iconst 1, 1) := by decide +kernel
theorem dX0_putNewPlate_62 : decode cX0_putNewPlate 62 = .ok (.iadd, 1) := by decide +kernel
theorem dX0_putNewPlate_63 : decode cX0_putNewPlate 63 = .ok (.iastore, 1) := by decide +kernel
theorem dX0_putNewPlate_64 : decode cX0_putNewPlate 64 = .ok (.return_, 1) := by decide +kernel
theorem dX0_platesEngraved_0 : decode cX0_platesEngraved 0 = .ok (.aload_n 0, 1) := by decide +kernel
theorem dX0_platesEngraved_1 : decode cX0_platesEngraved 1 = .ok (.getfield 11, 3) := by decide +kernel
theorem dX0_platesEngraved_4 : decode cX0_platesEngraved 4 = .ok (.sipush 26179, 3) := by decide +kernel
theorem dX0_platesEngraved_7 : decode cX0_platesEngraved 7 = .ok (.iaload, 1) := by decide +kernel
theorem dX0_platesEngraved_8 : decode cX0_platesEngraved 8 = .ok (.ireturn, 1) := by decide +kernel
theorem dX0_platesRenewed_0 : decode cX0_platesRenewed 0 = .ok (.aload_n 0, 1) := by decide +kernel
theorem dX0_platesRenewed_1 : decode cX0_platesRenewed 1 = .ok (.getfield 11, 3) := by decide +kernel
theorem dX0_platesRenewed_4 : decode cX0_platesRenewed 4 = .ok (.sipush 26180, 3) := by decide +kernel
theorem dX0_platesRenewed_7 : decode cX0_platesRenewed 7 = .ok (.iaload, 1) := by decide +kernel
theorem dX0_platesRenewed_8 : decode cX0_platesRenewed 8 = .ok (.ireturn, 1) := by decide +kernel
set_option maxRecDepth 20000 in
theorem ggX1_init_X4_init : GoodIn wsX1_init wsX4_init := goodIn_r _ [13, 14, 2, 3, 15, 16, 17, 18, 19, 20, 21, 22, 23, 24] (by decide +kernel) (by decide +kernel)
set_option maxRecDepth 20000 in
theorem gX1_init_X4_init : GoodIn wsX1_init (wsX4_init) := ggX1_init_X4_init
theorem dX1_init_0 : decode cX1_init 0 = .ok (.aload_n 0, 1) := by decide +kernel
theorem dX1_init_1 : decode cX1_init 1 = .ok (.invokespecial 3, 3) := by decide +kernel
theorem dX1_init_4 : decode cX1_init 4 = .ok (.aload_n 0, 1) := by decide +kernel
theorem dX1_init_5 : decode cX1_init 5 = .ok (.new 9, 3) := by decide +kernel
theorem dX1_init_8 : decode cX1_init 8 = .ok (.dup, 1) := by decide +kernel
theorem dX1_init_9 : decode cX1_init 9 = .ok (.invokespecial 11, 3) := by decide +kernel
theorem dX1_init_12 : decode cX1_init 12 = .ok (.putfield 12, 3) := by decide +kernel
theorem dX1_init_15 : decode cX1_init 15 = .ok (.aload_n 0, 1) := by decide +kernel
theorem dX1_init_16 : decode cX1_init 16 = .ok (.iconst 0, 1) := by decide +kernel
theorem dX1_init_17 : decode cX1_init 17 = .ok (.putfield 18, 3) := by decide +kernel
theorem dX1_init_20 : decode cX1_init 20 = .ok (.aload_n 0, 1) := by decide +kernel
theorem dX1_init_21 : decode cX1_init 21 = .ok (.iconst 0, 1) := by decide +kernel
theorem dX1_init_22 : decode cX1_init 22 = .ok (.putfield 22, 3) := by decide +kernel
theorem dX1_init_25 : decode cX1_init 25 = .ok (.aload_n 0, 1) := by decide +kernel
theorem dX1_init_26 : decode cX1_init 26 = .ok (.iconst 0, 1) := by decide +kernel
theorem dX1_init_27 : decode cX1_init 27 = .ok (.putfield 25, 3) := by decide +kernel
theorem dX1_init_30 : decode cX1_init 30 = .ok (.return_, 1) := by decide +kernel
set_option maxRecDepth 20000 in
theorem ggX1_measure_X4_fillByRank : GoodIn wsX1_measure wsX4_fillByRank := goodIn_r _ [10, 11, 12, 13, 14, 15, 16, 9, 17, 18, 19, 20, 21, 22, 23, 24, 25, 26, 27, 28, 29, 30, 31, 32, 33, 34, 35, 36, 37, 38, 39, 40, 41, 42, 43, 44, 45, 46, 81, 82, 83, 84, 85, 86] (by decide +kernel) (by decide +kernel)
set_option maxRecDepth 20000 in
theorem gX1_measure_X4_fillByRank : GoodIn wsX1_measure (wsV RX1 28 RX4 yX4_fillByRank wsX4_fillByRank) := goodIn_app (goodIn_of _ (by decide +kernel)) ggX1_measure_X4_fillByRank
set_option maxRecDepth 20000 in
theorem ggX1_measure_X0_petalLength : GoodIn wsX1_measure wsX0_petalLength := goodIn_r _ [50, 23, 85, 86] (by decide +kernel) (by decide +kernel)
set_option maxRecDepth 20000 in
theorem gX1_measure_X0_petalLength : GoodIn wsX1_measure (wsV RX1 32 RX0 yX0_petalLength wsX0_petalLength) := goodIn_app (goodIn_of _ (by decide +kernel)) ggX1_measure_X0_petalLength
set_option maxRecDepth 20000 in
theorem ggX1_measure_X1_compare : GoodIn wsX1_measure wsX1_compare := goodIn_r _ [55, 2, 4, 3, 56, 57, 58, 59, 77, 78, 79, 80] (by decide +kernel) (by decide +kernel)
set_option maxRecDepth 20000 in
theorem gX1_measure_X1_compare : GoodIn wsX1_measure (wsV RX1 42 RX1 yX1_compare wsX1_compare) := goodIn_app (goodIn_of _ (by decide +kernel)) ggX1_measure_X1_compare
set_option maxRecDepth 20000 in
theorem ggX1_measure_X0_circle : GoodIn wsX1_measure wsX0_circle := goodIn_r _ [63, 23, 85, 86] (by decide +kernel) (by decide +kernel)
set_option maxRecDepth 20000 in
theorem gX1_measure_X0_circle : GoodIn wsX1_measure (wsV RX1 46 RX0 yX0_circle wsX0_circle) := goodIn_app (goodIn_of _ (by decide +kernel)) ggX1_measure_X0_circle
set_option maxRecDepth 20000 in
theorem ggX1_measure_X0_calmShare : GoodIn wsX1_measure wsX0_calmShare := goodIn_r _ [67, 68, 69, 70, 21, 71, 72, 19, 20, 22, 23, 73, 74, 75, 76, 85, 86] (by decide +kernel) (by decide +kernel)
set_option maxRecDepth 20000 in
theorem gX1_measure_X0_calmShare : GoodIn wsX1_measure (wsV RX1 50 RX0 yX0_calmShare wsX0_calmShare) := goodIn_app (goodIn_of _ (by decide +kernel)) ggX1_measure_X0_calmShare
theorem dX1_measure_0 : decode cX1_measure 0 = .ok (.aload_n 0, 1) := by decide +kernel
theorem dX1_measure_1 : decode cX1_measure 1 = .ok (.getfield 12, 3) := by decide +kernel
theorem dX1_measure_4 : decode cX1_measure 4 = .ok (.aload_n 1, 1) := by decide +kernel
theorem dX1_measure_5 : decode cX1_measure 5 = .ok (.iload_n 2, 1) := by decide +kernel
theorem dX1_measure_6 : decode cX1_measure 6 = .ok (.invokevirtual 28, 3) := by decide +kernel
theorem dX1_measure_9 : decode cX1_measure 9 = .ok (.aload_n 0, 1) := by decide +kernel
theorem dX1_measure_10 : decode cX1_measure 10 = .ok (.iconst 0, 1) := by decide +kernel
theorem dX1_measure_11 : decode cX1_measure 11 = .ok (.putfield 18, 3) := by decide +kernel
theorem dX1_measure_14 : decode cX1_measure 14 = .ok (.aload_n 0, 1) := by decide +kernel
theorem dX1_measure_15 : decode cX1_measure 15 = .ok (.iconst 0, 1) := by decide +kernel
theorem dX1_measure_16 : decode cX1_measure 16 = .ok (.putfield 22, 3) := by decide +kernel
theorem dX1_measure_19 : decode cX1_measure 19 = .ok (.aload_n 0, 1) := by decide +kernel
theorem dX1_measure_20 : decode cX1_measure 20 = .ok (.iconst 0, 1) := by decide +kernel
theorem dX1_measure_21 : decode cX1_measure 21 = .ok (.putfield 25, 3) := by decide +kernel
theorem dX1_measure_24 : decode cX1_measure 24 = .ok (.iconst 0, 1) := by decide +kernel
theorem dX1_measure_25 : decode cX1_measure 25 = .ok (.istore_n 3, 1) := by decide +kernel
theorem dX1_measure_26 : decode cX1_measure 26 = .ok (.iload_n 3, 1) := by decide +kernel
theorem dX1_measure_27 : decode cX1_measure 27 = .ok (.bipush 48, 2) := by decide +kernel
theorem dX1_measure_29 : decode cX1_measure 29 = .ok (.if_icmp .ge 28, 3) := by decide +kernel
theorem dX1_measure_32 : decode cX1_measure 32 = .ok (.aload_n 0, 1) := by decide +kernel
theorem dX1_measure_33 : decode cX1_measure 33 = .ok (.aload_n 1, 1) := by decide +kernel
theorem dX1_measure_34 : decode cX1_measure 34 = .ok (.iload_n 2, 1) := by decide +kernel
theorem dX1_measure_35 : decode cX1_measure 35 = .ok (.iload_n 3, 1) := by decide +kernel
theorem dX1_measure_36 : decode cX1_measure 36 = .ok (.invokevirtual 32, 3) := by decide +kernel
theorem dX1_measure_39 : decode cX1_measure 39 = .ok (.aload_n 0, 1) := by decide +kernel
theorem dX1_measure_40 : decode cX1_measure 40 = .ok (.getfield 12, 3) := by decide +kernel
theorem dX1_measure_43 : decode cX1_measure 43 = .ok (.getfield 38, 3) := by decide +kernel
theorem dX1_measure_46 : decode cX1_measure 46 = .ok (.iload_n 3, 1) := by decide +kernel
theorem dX1_measure_47 : decode cX1_measure 47 = .ok (.iaload, 1) := by decide +kernel
theorem dX1_measure_48 : decode cX1_measure 48 = .ok (.invokevirtual 42, 3) := by decide +kernel
theorem dX1_measure_51 : decode cX1_measure 51 = .ok (.iinc 3 1, 3) := by decide +kernel
theorem dX1_measure_54 : decode cX1_measure 54 = .ok (.goto (-28), 3) := by decide +kernel
theorem dX1_measure_57 : decode cX1_measure 57 = .ok (.aload_n 0, 1) := by decide +kernel
theorem dX1_measure_58 : decode cX1_measure 58 = .ok (.aload_n 1, 1) := by decide +kernel
theorem dX1_measure_59 : decode cX1_measure 59 = .ok (.iload_n 2, 1) := by decide +kernel
theorem dX1_measure_60 : decode cX1_measure 60 = .ok (.invokevirtual 46, 3) := by decide +kernel
theorem dX1_measure_63 : decode cX1_measure 63 = .ok (.aload_n 1, 1) := by decide +kernel
theorem dX1_measure_64 : decode cX1_measure 64 = .ok (.iload_n 2, 1) := by decide +kernel
theorem dX1_measure_65 : decode cX1_measure 65 = .ok (.invokevirtual 50, 3) := by decide +kernel
theorem dX1_measure_68 : decode cX1_measure 68 = .ok (.invokevirtual 42, 3) := by decide +kernel
theorem dX1_measure_71 : decode cX1_measure 71 = .ok (.return_, 1) := by decide +kernel
theorem dX1_compare_0 : decode cX1_compare 0 = .ok (.iload_n 1, 1) := by decide +kernel
theorem dX1_compare_1 : decode cX1_compare 1 = .ok (.iload_n 2, 1) := by decide +kernel
theorem dX1_compare_2 : decode cX1_compare 2 = .ok (.if_icmp .eq 13, 3) := by decide +kernel
theorem dX1_compare_5 : decode cX1_compare 5 = .ok (.aload_n 0, 1) := by decide +kernel
theorem dX1_compare_6 : decode cX1_compare 6 = .ok (.dup, 1) := by decide +kernel
theorem dX1_compare_7 : decode cX1_compare 7 = .ok (.getfield 18, 3) := by decide +kernel
theorem dX1_compare_10 : decode cX1_compare 10 = .ok (.iconst 1, 1) := by decide +kernel
theorem dX1_compare_11 : decode cX1_compare 11 = .ok (.iadd, 1) := by decide +kernel
theorem dX1_compare_12 : decode cX1_compare 12 = .ok (.putfield 18, 3) := by decide +kernel
theorem dX1_compare_15 : decode cX1_compare 15 = .ok (.iload_n 1, 1) := by decide +kernel
theorem dX1_compare_16 : decode cX1_compare 16 = .ok (.iload_n 2, 1) := by decide +kernel
theorem dX1_compare_17 : decode cX1_compare 17 = .ok (.if_icmp .le 13, 3) := by decide +kernel
theorem dX1_compare_20 : decode cX1_compare 20 = .ok (.aload_n 0, 1) := by decide +kernel
theorem dX1_compare_21 : decode cX1_compare 21 = .ok (.dup, 1) := by decide +kernel
theorem dX1_compare_22 : decode cX1_compare 22 = .ok (.getfield 25, 3) := by decide +kernel
theorem dX1_compare_25 : decode cX1_compare 25 = .ok (.iconst 1, 1) := by decide +kernel
theorem dX1_compare_26 : decode cX1_compare 26 = .ok (.iadd, 1) := by decide +kernel
theorem dX1_compare_27 : decode cX1_compare 27 = .ok (.putfield 25, 3) := by decide +kernel
theorem dX1_compare_30 : decode cX1_compare 30 = .ok (.aload_n 0, 1) := by decide +kernel
theorem dX1_compare_31 : decode cX1_compare 31 = .ok (.dup, 1) := by decide +kernel
theorem dX1_compare_32 : decode cX1_compare 32 = .ok (.getfield 22, 3) := by decide +kernel
theorem dX1_compare_35 : decode cX1_compare 35 = .ok (.iload_n 1, 1) := by decide +kernel
theorem dX1_compare_36 : decode cX1_compare 36 = .ok (.iload_n 2, 1) := by decide +kernel
theorem dX1_compare_37 : decode cX1_compare 37 = .ok (.isub, 1) := by decide +kernel
theorem dX1_compare_38 : decode cX1_compare 38 = .ok (.invokestatic 53, 3) := by decide +kernel
theorem dX1_compare_41 : decode cX1_compare 41 = .ok (.iadd, 1) := by decide +kernel
theorem dX1_compare_42 : decode cX1_compare 42 = .ok (.putfield 22, 3) := by decide +kernel
theorem dX1_compare_45 : decode cX1_compare 45 = .ok (.return_, 1) := by decide +kernel
theorem dX2_init_0 : decode cX2_init 0 = .ok (.aload_n 0, 1) := by decide +kernel
theorem dX2_init_1 : decode cX2_init 1 = .ok (.invokespecial 3, 3) := by decide +kernel
theorem dX2_init_4 : decode cX2_init 4 = .ok (.aload_n 0, 1) := by decide +kernel
theorem dX2_init_5 : decode cX2_init 5 = .ok (.ldc 11, 2) := by decide +kernel
theorem dX2_init_7 : decode cX2_init 7 = .ok (.newarray .int, 2) := by decide +kernel
theorem dX2_init_9 : decode cX2_init 9 = .ok (.putfield 12, 3) := by decide +kernel
theorem dX2_init_12 : decode cX2_init 12 = .ok (.aload_n 0, 1) := by decide +kernel
theorem dX2_init_13 : decode cX2_init 13 = .ok (.iconst 0, 1) := by decide +kernel
theorem dX2_init_14 : decode cX2_init 14 = .ok (.putfield 18, 3) := by decide +kernel
theorem dX2_init_17 : decode cX2_init 17 = .ok (.aload_n 0, 1) := by decide +kernel
theorem dX2_init_18 : decode cX2_init 18 = .ok (.iconst 0, 1) := by decide +kernel
theorem dX2_init_19 : decode cX2_init 19 = .ok (.putfield 22, 3) := by decide +kernel
theorem dX2_init_22 : decode cX2_init 22 = .ok (.return_, 1) := by decide +kernel
theorem dX2_placeOf_0 : decode cX2_placeOf 0 = .ok (.aload_n 0, 1) := by decide +kernel
theorem dX2_placeOf_1 : decode cX2_placeOf 1 = .ok (.getfield 18, 3) := by decide +kernel
theorem dX2_placeOf_4 : decode cX2_placeOf 4 = .ok (.iload_n 1, 1) := by decide +kernel
theorem dX2_placeOf_5 : decode cX2_placeOf 5 = .ok (.iadd, 1) := by decide +kernel
theorem dX2_placeOf_6 : decode cX2_placeOf 6 = .ok (.iconst 4, 1) := by decide +kernel
theorem dX2_placeOf_7 : decode cX2_placeOf 7 = .ok (.irem, 1) := by decide +kernel
theorem dX2_placeOf_8 : decode cX2_placeOf 8 = .ok (.sipush 26181, 3) := by decide +kernel
theorem dX2_placeOf_11 : decode cX2_placeOf 11 = .ok (.imul, 1) := by decide +kernel
theorem dX2_placeOf_12 : decode cX2_placeOf 12 = .ok (.ireturn, 1) := by decide +kernel
set_option maxRecDepth 20000 in
theorem ggX2_remember_X2_placeOf : GoodIn wsX2_remember wsX2_placeOf := goodIn_r _ [8, 2, 19, 20, 21] (by decide +kernel) (by decide +kernel)
set_option maxRecDepth 20000 in
theorem gX2_remember_X2_placeOf : GoodIn wsX2_remember (wsV RX2 25 RX2 yX2_placeOf wsX2_placeOf) := goodIn_app (goodIn_of _ (by decide +kernel)) ggX2_remember_X2_placeOf
set_option maxRecDepth 20000 in
theorem ggX2_remember_X0_saveTo : GoodIn wsX2_remember wsX0_saveTo := goodIn_r _ [13, 14, 15, 16, 17, 18, 22, 23] (by decide +kernel) (by decide +kernel)
set_option maxRecDepth 20000 in
theorem gX2_remember_X0_saveTo : GoodIn wsX2_remember (wsV RX2 29 RX0 yX0_saveTo wsX0_saveTo) := goodIn_app (goodIn_of _ (by decide +kernel)) ggX2_remember_X0_saveTo
theorem dX2_remember_0 : decode cX2_remember 0 = .ok (.aload_n 0, 1) := by decide +kernel
theorem dX2_remember_1 : decode cX2_remember 1 = .ok (.getfield 22, 3) := by decide +kernel
theorem dX2_remember_4 : decode cX2_remember 4 = .ok (.iconst 4, 1) := by decide +kernel
theorem dX2_remember_5 : decode cX2_remember 5 = .ok (.if_icmp .ne 25, 3) := by decide +kernel
theorem dX2_remember_8 : decode cX2_remember 8 = .ok (.aload_n 0, 1) := by decide +kernel
theorem dX2_remember_9 : decode cX2_remember 9 = .ok (.aload_n 0, 1) := by decide +kernel
theorem dX2_remember_10 : decode cX2_remember 10 = .ok (.getfield 18, 3) := by decide +kernel
theorem dX2_remember_13 : decode cX2_remember 13 = .ok (.iconst 1, 1) := by decide +kernel
theorem dX2_remember_14 : decode cX2_remember 14 = .ok (.iadd, 1) := by decide +kernel
theorem dX2_remember_15 : decode cX2_remember 15 = .ok (.iconst 4, 1) := by decide +kernel
theorem dX2_remember_16 : decode cX2_remember 16 = .ok (.irem, 1) := by decide +kernel
theorem dX2_remember_17 : decode cX2_remember 17 = .ok (.putfield 18, 3) := by decide +kernel
theorem dX2_remember_20 : decode cX2_remember 20 = .ok (.aload_n 0, 1) := by decide +kernel
theorem dX2_remember_21 : decode cX2_remember 21 = .ok (.dup, 1) := by decide +kernel
theorem dX2_remember_22 : decode cX2_remember 22 = .ok (.getfield 22, 3) := by decide +kernel
theorem dX2_remember_25 : decode cX2_remember 25 = .ok (.iconst 1, 1) := by decide +kernel
theorem dX2_remember_26 : decode cX2_remember 26 = .ok (.isub, 1) := by decide +kernel
theorem dX2_remember_27 : decode cX2_remember 27 = .ok (.putfield 22, 3) := by decide +kernel
theorem dX2_remember_30 : decode cX2_remember 30 = .ok (.aload_n 1, 1) := by decide +kernel
theorem dX2_remember_31 : decode cX2_remember 31 = .ok (.aload_n 0, 1) := by decide +kernel
theorem dX2_remember_32 : decode cX2_remember 32 = .ok (.getfield 12, 3) := by decide +kernel
theorem dX2_remember_35 : decode cX2_remember 35 = .ok (.aload_n 0, 1) := by decide +kernel
theorem dX2_remember_36 : decode cX2_remember 36 = .ok (.aload_n 0, 1) := by decide +kernel
theorem dX2_remember_37 : decode cX2_remember 37 = .ok (.getfield 22, 3) := by decide +kernel
theorem dX2_remember_40 : decode cX2_remember 40 = .ok (.invokevirtual 25, 3) := by decide +kernel
theorem dX2_remember_43 : decode cX2_remember 43 = .ok (.invokevirtual 29, 3) := by decide +kernel
theorem dX2_remember_46 : decode cX2_remember 46 = .ok (.aload_n 0, 1) := by decide +kernel
theorem dX2_remember_47 : decode cX2_remember 47 = .ok (.dup, 1) := by decide +kernel
theorem dX2_remember_48 : decode cX2_remember 48 = .ok (.getfield 22, 3) := by decide +kernel
theorem dX2_remember_51 : decode cX2_remember 51 = .ok (.iconst 1, 1) := by decide +kernel
theorem dX2_remember_52 : decode cX2_remember 52 = .ok (.iadd, 1) := by decide +kernel
theorem dX2_remember_53 : decode cX2_remember 53 = .ok (.putfield 22, 3) := by decide +kernel
theorem dX2_remember_56 : decode cX2_remember 56 = .ok (.return_, 1) := by decide +kernel
set_option maxRecDepth 20000 in
theorem ggX2_takeBack_X2_placeOf : GoodIn wsX2_takeBack wsX2_placeOf := goodIn_r _ [7, 8, 19, 20, 21] (by decide +kernel) (by decide +kernel)
set_option maxRecDepth 20000 in
theorem gX2_takeBack_X2_placeOf : GoodIn wsX2_takeBack (wsV RX2 25 RX2 yX2_placeOf wsX2_placeOf) := goodIn_app (goodIn_of _ (by decide +kernel)) ggX2_takeBack_X2_placeOf
set_option maxRecDepth 20000 in
theorem ggX2_takeBack_X0_loadFrom : GoodIn wsX2_takeBack wsX0_loadFrom := goodIn_r _ [13, 14, 15, 16, 17, 18, 22, 23] (by decide +kernel) (by decide +kernel)
set_option maxRecDepth 20000 in
theorem gX2_takeBack_X0_loadFrom : GoodIn wsX2_takeBack (wsV RX2 33 RX0 yX0_loadFrom wsX0_loadFrom) := goodIn_app (goodIn_of _ (by decide +kernel)) ggX2_takeBack_X0_loadFrom
theorem dX2_takeBack_0 : decode cX2_takeBack 0 = .ok (.aload_n 0, 1) := by decide +kernel
theorem dX2_takeBack_1 : decode cX2_takeBack 1 = .ok (.getfield 22, 3) := by decide +kernel
theorem dX2_takeBack_4 : decode cX2_takeBack 4 = .ok (.ifCond .le 29, 3) := by decide +kernel
theorem dX2_takeBack_7 : decode cX2_takeBack 7 = .ok (.aload_n 0, 1) := by decide +kernel
theorem dX2_takeBack_8 : decode cX2_takeBack 8 = .ok (.dup, 1) := by decide +kernel
theorem dX2_takeBack_9 : decode cX2_takeBack 9 = .ok (.getfield 22, 3) := by decide +kernel
theorem dX2_takeBack_12 : decode cX2_takeBack 12 = .ok (.iconst 1, 1) := by decide +kernel
theorem dX2_takeBack_13 : decode cX2_takeBack 13 = .ok (.isub, 1) := by decide +kernel
theorem dX2_takeBack_14 : decode cX2_takeBack 14 = .ok (.putfield 22, 3) := by decide +kernel
theorem dX2_takeBack_17 : decode cX2_takeBack 17 = .ok (.aload_n 1, 1) := by decide +kernel
theorem dX2_takeBack_18 : decode cX2_takeBack 18 = .ok (.aload_n 0, 1) := by decide +kernel
theorem dX2_takeBack_19 : decode cX2_takeBack 19 = .ok (.getfield 12, 3) := by decide +kernel
theorem dX2_takeBack_22 : decode cX2_takeBack 22 = .ok (.aload_n 0, 1) := by decide +kernel
theorem dX2_takeBack_23 : decode cX2_takeBack 23 = .ok (.aload_n 0, 1) := by decide +kernel
theorem dX2_takeBack_24 : decode cX2_takeBack 24 = .ok (.getfield 22, 3) := by decide +kernel
theorem dX2_takeBack_27 : decode cX2_takeBack 27 = .ok (.invokevirtual 25, 3) := by decide +kernel
theorem dX2_takeBack_30 : decode cX2_takeBack 30 = .ok (.invokevirtual 33, 3) := by decide +kernel
theorem dX2_takeBack_33 : decode cX2_takeBack 33 = .ok (.return_, 1) := by decide +kernel
set_option maxRecDepth 20000 in
theorem ggX3_init_X5_init : GoodIn wsX3_init wsX5_init := goodIn_r _ [17, 18, 2, 3, 19, 20, 21, 22, 23] (by decide +kernel) (by decide +kernel)
set_option maxRecDepth 20000 in
theorem gX3_init_X5_init : GoodIn wsX3_init (wsX5_init) := ggX3_init_X5_init
theorem dX3_init_0 : decode cX3_init 0 = .ok (.aload_n 0, 1) := by decide +kernel
theorem dX3_init_1 : decode cX3_init 1 = .ok (.invokespecial 3, 3) := by decide +kernel
theorem dX3_init_4 : decode cX3_init 4 = .ok (.aload_n 0, 1) := by decide +kernel
theorem dX3_init_5 : decode cX3_init 5 = .ok (.new 9, 3) := by decide +kernel
theorem dX3_init_8 : decode cX3_init 8 = .ok (.dup, 1) := by decide +kernel
theorem dX3_init_9 : decode cX3_init 9 = .ok (.invokespecial 11, 3) := by decide +kernel
theorem dX3_init_12 : decode cX3_init 12 = .ok (.putfield 12, 3) := by decide +kernel
theorem dX3_init_15 : decode cX3_init 15 = .ok (.aload_n 0, 1) := by decide +kernel
theorem dX3_init_16 : decode cX3_init 16 = .ok (.bipush 16, 2) := by decide +kernel
theorem dX3_init_18 : decode cX3_init 18 = .ok (.newarray .int, 2) := by decide +kernel
theorem dX3_init_20 : decode cX3_init 20 = .ok (.putfield 18, 3) := by decide +kernel
theorem dX3_init_23 : decode cX3_init 23 = .ok (.aload_n 0, 1) := by decide +kernel
theorem dX3_init_24 : decode cX3_init 24 = .ok (.bipush 16, 2) := by decide +kernel
theorem dX3_init_26 : decode cX3_init 26 = .ok (.newarray .int, 2) := by decide +kernel
theorem dX3_init_28 : decode cX3_init 28 = .ok (.putfield 22, 3) := by decide +kernel
theorem dX3_init_31 : decode cX3_init 31 = .ok (.aload_n 0, 1) := by decide +kernel
theorem dX3_init_32 : decode cX3_init 32 = .ok (.bipush 16, 2) := by decide +kernel
theorem dX3_init_34 : decode cX3_init 34 = .ok (.newarray .int, 2) := by decide +kernel
theorem dX3_init_36 : decode cX3_init 36 = .ok (.putfield 25, 3) := by decide +kernel
theorem dX3_init_39 : decode cX3_init 39 = .ok (.aload_n 0, 1) := by decide +kernel
theorem dX3_init_40 : decode cX3_init 40 = .ok (.bipush 16, 2) := by decide +kernel
theorem dX3_init_42 : decode cX3_init 42 = .ok (.newarray .int, 2) := by decide +kernel
theorem dX3_init_44 : decode cX3_init 44 = .ok (.putfield 28, 3) := by decide +kernel
theorem dX3_init_47 : decode cX3_init 47 = .ok (.aload_n 0, 1) := by decide +kernel
theorem dX3_init_48 : decode cX3_init 48 = .ok (.iconst 0, 1) := by decide +kernel
theorem dX3_init_49 : decode cX3_init 49 = .ok (.putfield 31, 3) := by decide +kernel
theorem dX3_init_52 : decode cX3_init 52 = .ok (.aload_n 0, 1) := by decide +kernel
theorem dX3_init_53 : decode cX3_init 53 = .ok (.iconst 0, 1) := by decide +kernel
theorem dX3_init_54 : decode cX3_init 54 = .ok (.putfield 35, 3) := by decide +kernel
theorem dX3_init_57 : decode cX3_init 57 = .ok (.return_, 1) := by decide +kernel
set_option maxRecDepth 20000 in
theorem ggX3_readAll_X3_readEntry : GoodIn wsX3_readAll wsX3_readEntry := goodIn_r _ [8, 9, 10, 11, 12, 7, 13, 3, 1, 14, 15, 16, 17, 18, 19, 20, 21, 22, 23, 24, 25, 26, 27, 28, 29, 30, 31, 32, 33, 34, 35, 36, 37, 38, 39, 40, 41, 42, 43, 44, 49, 50, 51, 52, 53, 54, 55, 56, 57] (by decide +kernel) (by decide +kernel)
set_option maxRecDepth 20000 in
theorem gX3_readAll_X3_readEntry : GoodIn wsX3_readAll (wsV RX3 38 RX3 yX3_readEntry wsX3_readEntry) := goodIn_app (goodIn_of _ (by decide +kernel)) ggX3_readAll_X3_readEntry
set_option maxRecDepth 20000 in
theorem ggX3_readAll_X3_take : GoodIn wsX3_readAll wsX3_take := goodIn_r _ [27, 3, 1, 28, 29, 30, 17, 31, 19, 20, 21, 22, 23, 49, 50, 51, 52, 53, 54, 55, 56, 57] (by decide +kernel) (by decide +kernel)
set_option maxRecDepth 20000 in
theorem gX3_readAll_X3_take : GoodIn wsX3_readAll (wsV RX3 42 RX3 yX3_take wsX3_take) := goodIn_app (goodIn_of _ (by decide +kernel)) ggX3_readAll_X3_take
set_option maxRecDepth 20000 in
theorem ggX3_readAll_X5_length : GoodIn wsX3_readAll wsX5_length := goodIn_r _ [48, 19, 56, 57] (by decide +kernel) (by decide +kernel)
set_option maxRecDepth 20000 in
theorem gX3_readAll_X5_length : GoodIn wsX3_readAll (wsV RX3 46 RX5 yX5_length wsX5_length) := goodIn_app (goodIn_of _ (by decide +kernel)) ggX3_readAll_X5_length
theorem dX3_readAll_0 : decode cX3_readAll 0 = .ok (.aload_n 0, 1) := by decide +kernel
theorem dX3_readAll_1 : decode cX3_readAll 1 = .ok (.iconst 0, 1) := by decide +kernel
theorem dX3_readAll_2 : decode cX3_readAll 2 = .ok (.putfield 35, 3) := by decide +kernel
theorem dX3_readAll_5 : decode cX3_readAll 5 = .ok (.aload_n 0, 1) := by decide +kernel
theorem dX3_readAll_6 : decode cX3_readAll 6 = .ok (.iconst 0, 1) := by decide +kernel
theorem dX3_readAll_7 : decode cX3_readAll 7 = .ok (.putfield 31, 3) := by decide +kernel
theorem dX3_readAll_10 : decode cX3_readAll 10 = .ok (.iconst 0, 1) := by decide +kernel
theorem dX3_readAll_11 : decode cX3_readAll 11 = .ok (.istore_n 1, 1) := by decide +kernel
theorem dX3_readAll_12 : decode cX3_readAll 12 = .ok (.iload_n 1, 1) := by decide +kernel
theorem dX3_readAll_13 : decode cX3_readAll 13 = .ok (.bipush 16, 2) := by decide +kernel
theorem dX3_readAll_15 : decode cX3_readAll 15 = .ok (.if_icmp .ge 55, 3) := by decide +kernel
theorem dX3_readAll_18 : decode cX3_readAll 18 = .ok (.aload_n 0, 1) := by decide +kernel
theorem dX3_readAll_19 : decode cX3_readAll 19 = .ok (.iload_n 1, 1) := by decide +kernel
theorem dX3_readAll_20 : decode cX3_readAll 20 = .ok (.invokevirtual 38, 3) := by decide +kernel
theorem dX3_readAll_23 : decode cX3_readAll 23 = .ok (.ifCond .ne 5, 3) := by decide +kernel
theorem dX3_readAll_26 : decode cX3_readAll 26 = .ok (.iconst 0, 1) := by decide +kernel
theorem dX3_readAll_27 : decode cX3_readAll 27 = .ok (.ireturn, 1) := by decide +kernel
theorem dX3_readAll_28 : decode cX3_readAll 28 = .ok (.aload_n 0, 1) := by decide +kernel
theorem dX3_readAll_29 : decode cX3_readAll 29 = .ok (.iload_n 1, 1) := by decide +kernel
theorem dX3_readAll_30 : decode cX3_readAll 30 = .ok (.iconst 1, 1) := by decide +kernel
theorem dX3_readAll_31 : decode cX3_readAll 31 = .ok (.iadd, 1) := by decide +kernel
theorem dX3_readAll_32 : decode cX3_readAll 32 = .ok (.putfield 31, 3) := by decide +kernel
theorem dX3_readAll_35 : decode cX3_readAll 35 = .ok (.aload_n 0, 1) := by decide +kernel
theorem dX3_readAll_36 : decode cX3_readAll 36 = .ok (.bipush 59, 2) := by decide +kernel
theorem dX3_readAll_38 : decode cX3_readAll 38 = .ok (.invokevirtual 42, 3) := by decide +kernel
theorem dX3_readAll_41 : decode cX3_readAll 41 = .ok (.ifCond .ne 23, 3) := by decide +kernel
theorem dX3_readAll_44 : decode cX3_readAll 44 = .ok (.aload_n 0, 1) := by decide +kernel
theorem dX3_readAll_45 : decode cX3_readAll 45 = .ok (.getfield 35, 3) := by decide +kernel
theorem dX3_readAll_48 : decode cX3_readAll 48 = .ok (.aload_n 0, 1) := by decide +kernel
theorem dX3_readAll_49 : decode cX3_readAll 49 = .ok (.getfield 12, 3) := by decide +kernel
theorem dX3_readAll_52 : decode cX3_readAll 52 = .ok (.invokevirtual 46, 3) := by decide +kernel
theorem dX3_readAll_55 : decode cX3_readAll 55 = .ok (.if_icmp .ne 7, 3) := by decide +kernel
theorem dX3_readAll_58 : decode cX3_readAll 58 = .ok (.iconst 1, 1) := by decide +kernel
theorem dX3_readAll_59 : decode cX3_readAll 59 = .ok (.goto 4, 3) := by decide +kernel
theorem dX3_readAll_62 : decode cX3_readAll 62 = .ok (.iconst 0, 1) := by decide +kernel
theorem dX3_readAll_63 : decode cX3_readAll 63 = .ok (.ireturn, 1) := by decide +kernel
theorem dX3_readAll_64 : decode cX3_readAll 64 = .ok (.iinc 1 1, 3) := by decide +kernel
theorem dX3_readAll_67 : decode cX3_readAll 67 = .ok (.goto (-55), 3) := by decide +kernel
theorem dX3_readAll_70 : decode cX3_readAll 70 = .ok (.iconst 0, 1) := by decide +kernel
theorem dX3_readAll_71 : decode cX3_readAll 71 = .ok (.ireturn, 1) := by decide +kernel
theorem dX3_hoursOf_0 : decode cX3_hoursOf 0 = .ok (.iconst 0, 1) := by decide +kernel
theorem dX3_hoursOf_1 : decode cX3_hoursOf 1 = .ok (.istore_n 2, 1) := by decide +kernel
theorem dX3_hoursOf_2 : decode cX3_hoursOf 2 = .ok (.iconst 0, 1) := by decide +kernel
theorem dX3_hoursOf_3 : decode cX3_hoursOf 3 = .ok (.istore_n 3, 1) := by decide +kernel
theorem dX3_hoursOf_4 : decode cX3_hoursOf 4 = .ok (.iload_n 3, 1) := by decide +kernel
theorem dX3_hoursOf_5 : decode cX3_hoursOf 5 = .ok (.aload_n 0, 1) := by decide +kernel
theorem dX3_hoursOf_6 : decode cX3_hoursOf 6 = .ok (.getfield 31, 3) := by decide +kernel
theorem dX3_hoursOf_9 : decode cX3_hoursOf 9 = .ok (.if_icmp .ge 28, 3) := by decide +kernel
theorem dX3_hoursOf_12 : decode cX3_hoursOf 12 = .ok (.aload_n 0, 1) := by decide +kernel
theorem dX3_hoursOf_13 : decode cX3_hoursOf 13 = .ok (.getfield 18, 3) := by decide +kernel
theorem dX3_hoursOf_16 : decode cX3_hoursOf 16 = .ok (.iload_n 3, 1) := by decide +kernel
theorem dX3_hoursOf_17 : decode cX3_hoursOf 17 = .ok (.iaload, 1) := by decide +kernel
theorem dX3_hoursOf_18 : decode cX3_hoursOf 18 = .ok (.iload_n 1, 1) := by decide +kernel
theorem dX3_hoursOf_19 : decode cX3_hoursOf 19 = .ok (.if_icmp .ne 12, 3) := by decide +kernel
theorem dX3_hoursOf_22 : decode cX3_hoursOf 22 = .ok (.iload_n 2, 1) := by decide +kernel
theorem dX3_hoursOf_23 : decode cX3_hoursOf 23 = .ok (.aload_n 0, 1) := by decide +kernel
theorem dX3_hoursOf_24 : decode cX3_hoursOf 24 = .ok (.getfield 28, 3) := by decide +kernel
theorem dX3_hoursOf_27 : decode cX3_hoursOf 27 = .ok (.iload_n 3, 1) := by decide +kernel
theorem dX3_hoursOf_28 : decode cX3_hoursOf 28 = .ok (.iaload, 1) := by decide +kernel
theorem dX3_hoursOf_29 : decode cX3_hoursOf 29 = .ok (.iadd, 1) := by decide +kernel
theorem dX3_hoursOf_30 : decode cX3_hoursOf 30 = .ok (.istore_n 2, 1) := by decide +kernel
theorem dX3_hoursOf_31 : decode cX3_hoursOf 31 = .ok (.iinc 3 1, 3) := by decide +kernel
theorem dX3_hoursOf_34 : decode cX3_hoursOf 34 = .ok (.goto (-30), 3) := by decide +kernel
theorem dX3_hoursOf_37 : decode cX3_hoursOf 37 = .ok (.iload_n 2, 1) := by decide +kernel
theorem dX3_hoursOf_38 : decode cX3_hoursOf 38 = .ok (.ireturn, 1) := by decide +kernel
set_option maxRecDepth 20000 in
theorem ggX3_addEntry_X0_addCalm : GoodIn wsX3_addEntry wsX0_addCalm := goodIn_r _ [9, 10, 25, 26] (by decide +kernel) (by decide +kernel)
set_option maxRecDepth 20000 in
theorem gX3_addEntry_X0_addCalm : GoodIn wsX3_addEntry (wsV RX3 50 RX0 yX0_addCalm wsX0_addCalm) := goodIn_app (goodIn_of _ (by decide +kernel)) ggX3_addEntry_X0_addCalm
set_option maxRecDepth 20000 in
theorem ggX3_addEntry_X0_addWindy : GoodIn wsX3_addEntry wsX0_addWindy := goodIn_r _ [14, 10, 15, 16, 8, 17, 25, 26] (by decide +kernel) (by decide +kernel)
set_option maxRecDepth 20000 in
theorem gX3_addEntry_X0_addWindy : GoodIn wsX3_addEntry (wsV RX3 56 RX0 yX0_addWindy wsX0_addWindy) := goodIn_app (goodIn_of _ (by decide +kernel)) ggX3_addEntry_X0_addWindy
theorem dX3_addEntry_0 : decode cX3_addEntry 0 = .ok (.aload_n 0, 1) := by decide +kernel
theorem dX3_addEntry_1 : decode cX3_addEntry 1 = .ok (.getfield 22, 3) := by decide +kernel
theorem dX3_addEntry_4 : decode cX3_addEntry 4 = .ok (.iload_n 2, 1) := by decide +kernel
theorem dX3_addEntry_5 : decode cX3_addEntry 5 = .ok (.iaload, 1) := by decide +kernel
theorem dX3_addEntry_6 : decode cX3_addEntry 6 = .ok (.iconst (-1), 1) := by decide +kernel
theorem dX3_addEntry_7 : decode cX3_addEntry 7 = .ok (.if_icmp .ne 22, 3) := by decide +kernel
theorem dX3_addEntry_10 : decode cX3_addEntry 10 = .ok (.aload_n 1, 1) := by decide +kernel
theorem dX3_addEntry_11 : decode cX3_addEntry 11 = .ok (.aload_n 0, 1) := by decide +kernel
theorem dX3_addEntry_12 : decode cX3_addEntry 12 = .ok (.getfield 18, 3) := by decide +kernel
theorem dX3_addEntry_15 : decode cX3_addEntry 15 = .ok (.iload_n 2, 1) := by decide +kernel
theorem dX3_addEntry_16 : decode cX3_addEntry 16 = .ok (.iaload, 1) := by decide +kernel
theorem dX3_addEntry_17 : decode cX3_addEntry 17 = .ok (.aload_n 0, 1) := by decide +kernel
theorem dX3_addEntry_18 : decode cX3_addEntry 18 = .ok (.getfield 28, 3) := by decide +kernel
theorem dX3_addEntry_21 : decode cX3_addEntry 21 = .ok (.iload_n 2, 1) := by decide +kernel
theorem dX3_addEntry_22 : decode cX3_addEntry 22 = .ok (.iaload, 1) := by decide +kernel
theorem dX3_addEntry_23 : decode cX3_addEntry 23 = .ok (.invokevirtual 50, 3) := by decide +kernel
theorem dX3_addEntry_26 : decode cX3_addEntry 26 = .ok (.goto 31, 3) := by decide +kernel
theorem dX3_addEntry_29 : decode cX3_addEntry 29 = .ok (.aload_n 1, 1) := by decide +kernel
theorem dX3_addEntry_30 : decode cX3_addEntry 30 = .ok (.aload_n 0, 1) := by decide +kernel
theorem dX3_addEntry_31 : decode cX3_addEntry 31 = .ok (.getfield 18, 3) := by decide +kernel
theorem dX3_addEntry_34 : decode cX3_addEntry 34 = .ok (.iload_n 2, 1) := by decide +kernel
theorem dX3_addEntry_35 : decode cX3_addEntry 35 = .ok (.iaload, 1) := by decide +kernel
theorem dX3_addEntry_36 : decode cX3_addEntry 36 = .ok (.aload_n 0, 1) := by decide +kernel
theorem dX3_addEntry_37 : decode cX3_addEntry 37 = .ok (.getfield 22, 3) := by decide +kernel
theorem dX3_addEntry_40 : decode cX3_addEntry 40 = .ok (.iload_n 2, 1) := by decide +kernel
theorem dX3_addEntry_41 : decode cX3_addEntry 41 = .ok (.iaload, 1) := by decide +kernel
theorem dX3_addEntry_42 : decode cX3_addEntry 42 = .ok (.aload_n 0, 1) := by decide +kernel
theorem dX3_addEntry_43 : decode cX3_addEntry 43 = .ok (.getfield 25, 3) := by decide +kernel
theorem dX3_addEntry_46 : decode cX3_addEntry 46 = .ok (.iload_n 2, 1) := by decide +kernel
theorem dX3_addEntry_47 : decode cX3_addEntry 47 = .ok (.iaload, 1) := by decide +kernel
theorem dX3_addEntry_48 : decode cX3_addEntry 48 = .ok (.aload_n 0, 1) := by decide +kernel
theorem dX3_addEntry_49 : decode cX3_addEntry 49 = .ok (.getfield 28, 3) := by decide +kernel
theorem dX3_addEntry_52 : decode cX3_addEntry 52 = .ok (.iload_n 2, 1) := by decide +kernel
theorem dX3_addEntry_53 : decode cX3_addEntry 53 = .ok (.iaload, 1) := by decide +kernel
theorem dX3_addEntry_54 : decode cX3_addEntry 54 = .ok (.invokevirtual 56, 3) := by decide +kernel
theorem dX3_addEntry_57 : decode cX3_addEntry 57 = .ok (.return_, 1) := by decide +kernel
set_option maxRecDepth 20000 in
theorem ggX3_readEntry_X3_readNumber : GoodIn wsX3_readEntry wsX3_readNumber := goodIn_r _ [6, 7, 8, 9, 10, 11, 12, 13, 14, 15, 16, 17, 18, 40, 41, 42, 43, 44, 45, 46, 47, 48] (by decide +kernel) (by decide +kernel)
set_option maxRecDepth 20000 in
theorem gX3_readEntry_X3_readNumber : GoodIn wsX3_readEntry (wsV RX3 60 RX3 yX3_readNumber wsX3_readNumber) := goodIn_app (goodIn_of _ (by decide +kernel)) ggX3_readEntry_X3_readNumber
set_option maxRecDepth 20000 in
theorem ggX3_readEntry_X3_take : GoodIn wsX3_readEntry wsX3_take := goodIn_r _ [22, 7, 8, 23, 24, 25, 12, 26, 14, 15, 16, 17, 18, 40, 41, 42, 43, 44, 45, 46, 47, 48] (by decide +kernel) (by decide +kernel)
set_option maxRecDepth 20000 in
theorem gX3_readEntry_X3_take : GoodIn wsX3_readEntry (wsV RX3 42 RX3 yX3_take wsX3_take) := goodIn_app (goodIn_of _ (by decide +kernel)) ggX3_readEntry_X3_take
set_option maxRecDepth 20000 in
theorem ggX3_readEntry_X6_roseOf : GoodIn wsX3_readEntry wsX6_roseOf := goodIn_r _ [28] (by decide +kernel) (by decide +kernel)
set_option maxRecDepth 20000 in
theorem gX3_readEntry_X6_roseOf_n64 : GoodIn wsX3_readEntry (wsX6_roseOf) := ggX3_readEntry_X6_roseOf
set_option maxRecDepth 20000 in
theorem ggX3_readEntry_X3_readWind : GoodIn wsX3_readEntry wsX3_readWind := goodIn_r _ [32, 33, 34, 19, 20, 21, 5, 22, 7, 8, 23, 24, 25, 12, 26, 14, 15, 16, 17, 18, 2, 3, 4, 6, 9, 10, 11, 13, 40, 41, 42, 43, 44, 45, 46, 47, 48] (by decide +kernel) (by decide +kernel)
set_option maxRecDepth 20000 in
theorem gX3_readEntry_X3_readWind : GoodIn wsX3_readEntry (wsV RX3 67 RX3 yX3_readWind wsX3_readWind) := goodIn_app (goodIn_of _ (by decide +kernel)) ggX3_readEntry_X3_readWind
set_option maxRecDepth 20000 in
theorem ggX3_readEntry_X3_readHours : GoodIn wsX3_readEntry wsX3_readHours := goodIn_r _ [38, 39, 19, 20, 21, 5, 22, 7, 8, 23, 24, 25, 12, 26, 14, 15, 16, 17, 18, 2, 3, 4, 6, 9, 10, 11, 13, 40, 41, 42, 43, 44, 45, 46, 47, 48] (by decide +kernel) (by decide +kernel)
set_option maxRecDepth 20000 in
theorem gX3_readEntry_X3_readHours : GoodIn wsX3_readEntry (wsV RX3 70 RX3 yX3_readHours wsX3_readHours) := goodIn_app (goodIn_of _ (by decide +kernel)) ggX3_readEntry_X3_readHours
theorem dX3_readEntry_0 : decode cX3_readEntry 0 = .ok (.aload_n 0, 1) := by decide +kernel
theorem dX3_readEntry_1 : decode cX3_readEntry 1 = .ok (.iconst 0, 1) := by decide +kernel
theorem dX3_readEntry_2 : decode cX3_readEntry 2 = .ok (.iconst 3, 1) := by decide +kernel
theorem dX3_readEntry_3 : decode cX3_readEntry 3 = .ok (.invokevirtual 60, 3) := by decide +kernel
theorem dX3_readEntry_6 : decode cX3_readEntry 6 = .ok (.istore_n 2, 1) := by decide +kernel
theorem dX3_readEntry_7 : decode cX3_readEntry 7 = .ok (.iload_n 2, 1) := by decide +kernel
theorem dX3_readEntry_8 : decode cX3_readEntry 8 = .ok (.ifCond .lt 12, 3) := by decide +kernel
theorem dX3_readEntry_11 : decode cX3_readEntry 11 = .ok (.aload_n 0, 1) := by decide +kernel
theorem dX3_readEntry_12 : decode cX3_readEntry 12 = .ok (.bipush 46, 2) := by decide +kernel
theorem dX3_readEntry_14 : decode cX3_readEntry 14 = .ok (.invokevirtual 42, 3) := by decide +kernel
theorem dX3_readEntry_17 : decode cX3_readEntry 17 = .ok (.ifCond .ne 5, 3) := by decide +kernel
theorem dX3_readEntry_20 : decode cX3_readEntry 20 = .ok (.iconst 0, 1) := by decide +kernel
theorem dX3_readEntry_21 : decode cX3_readEntry 21 = .ok (.ireturn, 1) := by decide +kernel
theorem dX3_readEntry_22 : decode cX3_readEntry 22 = .ok (.aload_n 0, 1) := by decide +kernel
theorem dX3_readEntry_23 : decode cX3_readEntry 23 = .ok (.iconst 0, 1) := by decide +kernel
theorem dX3_readEntry_24 : decode cX3_readEntry 24 = .ok (.iconst 3, 1) := by decide +kernel
theorem dX3_readEntry_25 : decode cX3_readEntry 25 = .ok (.invokevirtual 60, 3) := by decide +kernel
theorem dX3_readEntry_28 : decode cX3_readEntry 28 = .ok (.istore_n 3, 1) := by decide +kernel
theorem dX3_readEntry_29 : decode cX3_readEntry 29 = .ok (.iload_n 3, 1) := by decide +kernel
theorem dX3_readEntry_30 : decode cX3_readEntry 30 = .ok (.ifCond .lt 12, 3) := by decide +kernel
theorem dX3_readEntry_33 : decode cX3_readEntry 33 = .ok (.aload_n 0, 1) := by decide +kernel
theorem dX3_readEntry_34 : decode cX3_readEntry 34 = .ok (.bipush 58, 2) := by decide +kernel
theorem dX3_readEntry_36 : decode cX3_readEntry 36 = .ok (.invokevirtual 42, 3) := by decide +kernel
theorem dX3_readEntry_39 : decode cX3_readEntry 39 = .ok (.ifCond .ne 5, 3) := by decide +kernel
theorem dX3_readEntry_42 : decode cX3_readEntry 42 = .ok (.iconst 0, 1) := by decide +kernel
theorem dX3_readEntry_43 : decode cX3_readEntry 43 = .ok (.ireturn, 1) := by decide +kernel
theorem dX3_readEntry_44 : decode cX3_readEntry 44 = .ok (.aload_n 0, 1) := by decide +kernel
theorem dX3_readEntry_45 : decode cX3_readEntry 45 = .ok (.getfield 18, 3) := by decide +kernel
theorem dX3_readEntry_48 : decode cX3_readEntry 48 = .ok (.iload_n 1, 1) := by decide +kernel
theorem dX3_readEntry_49 : decode cX3_readEntry 49 = .ok (.iload_n 2, 1) := by decide +kernel
theorem dX3_readEntry_50 : decode cX3_readEntry 50 = .ok (.iload_n 3, 1) := by decide +kernel
theorem dX3_readEntry_51 : decode cX3_readEntry 51 = .ok (.invokestatic 64, 3) := by decide +kernel
theorem dX3_readEntry_54 : decode cX3_readEntry 54 = .ok (.iastore, 1) := by decide +kernel
theorem dX3_readEntry_55 : decode cX3_readEntry 55 = .ok (.aload_n 0, 1) := by decide +kernel
theorem dX3_readEntry_56 : decode cX3_readEntry 56 = .ok (.iload_n 1, 1) := by decide +kernel
theorem dX3_readEntry_57 : decode cX3_readEntry 57 = .ok (.invokevirtual 67, 3) := by decide +kernel
theorem dX3_readEntry_60 : decode cX3_readEntry 60 = .ok (.ifCond .eq 15, 3) := by decide +kernel
theorem dX3_readEntry_63 : decode cX3_readEntry 63 = .ok (.aload_n 0, 1) := by decide +kernel
theorem dX3_readEntry_64 : decode cX3_readEntry 64 = .ok (.iload_n 1, 1) := by decide +kernel
theorem dX3_readEntry_65 : decode cX3_readEntry 65 = .ok (.invokevirtual 70, 3) := by decide +kernel
theorem dX3_readEntry_68 : decode cX3_readEntry 68 = .ok (.ifCond .eq 7, 3) := by decide +kernel
theorem dX3_readEntry_71 : decode cX3_readEntry 71 = .ok (.iconst 1, 1) := by decide +kernel
theorem dX3_readEntry_72 : decode cX3_readEntry 72 = .ok (.goto 4, 3) := by decide +kernel
theorem dX3_readEntry_75 : decode cX3_readEntry 75 = .ok (.iconst 0, 1) := by decide +kernel
theorem dX3_readEntry_76 : decode cX3_readEntry 76 = .ok (.ireturn, 1) := by decide +kernel
set_option maxRecDepth 20000 in
theorem ggX3_readWind_X3_take : GoodIn wsX3_readWind wsX3_take := goodIn_r _ [7, 8, 9, 10, 11, 12, 13, 14, 15, 16, 17, 18, 19, 28, 29, 30, 31, 32, 33, 34, 35, 36] (by decide +kernel) (by decide +kernel)
set_option maxRecDepth 20000 in
theorem gX3_readWind_X3_take : GoodIn wsX3_readWind (wsV RX3 42 RX3 yX3_take wsX3_take) := goodIn_app (goodIn_of _ (by decide +kernel)) ggX3_readWind_X3_take
set_option maxRecDepth 20000 in
theorem ggX3_readWind_X3_readNumber : GoodIn wsX3_readWind wsX3_readNumber := goodIn_r _ [23, 8, 9, 24, 25, 26, 13, 27, 15, 16, 17, 18, 19, 28, 29, 30, 31, 32, 33, 34, 35, 36] (by decide +kernel) (by decide +kernel)
set_option maxRecDepth 20000 in
theorem gX3_readWind_X3_readNumber : GoodIn wsX3_readWind (wsV RX3 60 RX3 yX3_readNumber wsX3_readNumber) := goodIn_app (goodIn_of _ (by decide +kernel)) ggX3_readWind_X3_readNumber
theorem dX3_readWind_0 : decode cX3_readWind 0 = .ok (.aload_n 0, 1) := by decide +kernel
theorem dX3_readWind_1 : decode cX3_readWind 1 = .ok (.getfield 22, 3) := by decide +kernel
theorem dX3_readWind_4 : decode cX3_readWind 4 = .ok (.iload_n 1, 1) := by decide +kernel
theorem dX3_readWind_5 : decode cX3_readWind 5 = .ok (.iconst (-1), 1) := by decide +kernel
theorem dX3_readWind_6 : decode cX3_readWind 6 = .ok (.iastore, 1) := by decide +kernel
theorem dX3_readWind_7 : decode cX3_readWind 7 = .ok (.aload_n 0, 1) := by decide +kernel
theorem dX3_readWind_8 : decode cX3_readWind 8 = .ok (.getfield 25, 3) := by decide +kernel
theorem dX3_readWind_11 : decode cX3_readWind 11 = .ok (.iload_n 1, 1) := by decide +kernel
theorem dX3_readWind_12 : decode cX3_readWind 12 = .ok (.iconst 0, 1) := by decide +kernel
theorem dX3_readWind_13 : decode cX3_readWind 13 = .ok (.iastore, 1) := by decide +kernel
theorem dX3_readWind_14 : decode cX3_readWind 14 = .ok (.aload_n 0, 1) := by decide +kernel
theorem dX3_readWind_15 : decode cX3_readWind 15 = .ok (.bipush 99, 2) := by decide +kernel
theorem dX3_readWind_17 : decode cX3_readWind 17 = .ok (.invokevirtual 42, 3) := by decide +kernel
theorem dX3_readWind_20 : decode cX3_readWind 20 = .ok (.ifCond .eq 5, 3) := by decide +kernel
theorem dX3_readWind_23 : decode cX3_readWind 23 = .ok (.iconst 1, 1) := by decide +kernel
theorem dX3_readWind_24 : decode cX3_readWind 24 = .ok (.ireturn, 1) := by decide +kernel
theorem dX3_readWind_25 : decode cX3_readWind 25 = .ok (.aload_n 0, 1) := by decide +kernel
theorem dX3_readWind_26 : decode cX3_readWind 26 = .ok (.iconst 0, 1) := by decide +kernel
theorem dX3_readWind_27 : decode cX3_readWind 27 = .ok (.bipush 15, 2) := by decide +kernel
theorem dX3_readWind_29 : decode cX3_readWind 29 = .ok (.invokevirtual 60, 3) := by decide +kernel
theorem dX3_readWind_32 : decode cX3_readWind 32 = .ok (.istore_n 2, 1) := by decide +kernel
theorem dX3_readWind_33 : decode cX3_readWind 33 = .ok (.iload_n 2, 1) := by decide +kernel
theorem dX3_readWind_34 : decode cX3_readWind 34 = .ok (.ifCond .lt 12, 3) := by decide +kernel
theorem dX3_readWind_37 : decode cX3_readWind 37 = .ok (.aload_n 0, 1) := by decide +kernel
theorem dX3_readWind_38 : decode cX3_readWind 38 = .ok (.bipush 64, 2) := by decide +kernel
theorem dX3_readWind_40 : decode cX3_readWind 40 = .ok (.invokevirtual 42, 3) := by decide +kernel
theorem dX3_readWind_43 : decode cX3_readWind 43 = .ok (.ifCond .ne 5, 3) := by decide +kernel
theorem dX3_readWind_46 : decode cX3_readWind 46 = .ok (.iconst 0, 1) := by decide +kernel
theorem dX3_readWind_47 : decode cX3_readWind 47 = .ok (.ireturn, 1) := by decide +kernel
theorem dX3_readWind_48 : decode cX3_readWind 48 = .ok (.aload_n 0, 1) := by decide +kernel
theorem dX3_readWind_49 : decode cX3_readWind 49 = .ok (.getfield 22, 3) := by decide +kernel
theorem dX3_readWind_52 : decode cX3_readWind 52 = .ok (.iload_n 1, 1) := by decide +kernel
theorem dX3_readWind_53 : decode cX3_readWind 53 = .ok (.iload_n 2, 1) := by decide +kernel
theorem dX3_readWind_54 : decode cX3_readWind 54 = .ok (.iastore, 1) := by decide +kernel
theorem dX3_readWind_55 : decode cX3_readWind 55 = .ok (.aload_n 0, 1) := by decide +kernel
theorem dX3_readWind_56 : decode cX3_readWind 56 = .ok (.getfield 25, 3) := by decide +kernel
theorem dX3_readWind_59 : decode cX3_readWind 59 = .ok (.iload_n 1, 1) := by decide +kernel
theorem dX3_readWind_60 : decode cX3_readWind 60 = .ok (.aload_n 0, 1) := by decide +kernel
theorem dX3_readWind_61 : decode cX3_readWind 61 = .ok (.iconst 1, 1) := by decide +kernel
theorem dX3_readWind_62 : decode cX3_readWind 62 = .ok (.bipush 99, 2) := by decide +kernel
theorem dX3_readWind_64 : decode cX3_readWind 64 = .ok (.invokevirtual 60, 3) := by decide +kernel
theorem dX3_readWind_67 : decode cX3_readWind 67 = .ok (.iastore, 1) := by decide +kernel
theorem dX3_readWind_68 : decode cX3_readWind 68 = .ok (.aload_n 0, 1) := by decide +kernel
theorem dX3_readWind_69 : decode cX3_readWind 69 = .ok (.getfield 25, 3) := by decide +kernel
theorem dX3_readWind_72 : decode cX3_readWind 72 = .ok (.iload_n 1, 1) := by decide +kernel
theorem dX3_readWind_73 : decode cX3_readWind 73 = .ok (.iaload, 1) := by decide +kernel
theorem dX3_readWind_74 : decode cX3_readWind 74 = .ok (.ifCond .le 7, 3) := by decide +kernel
theorem dX3_readWind_77 : decode cX3_readWind 77 = .ok (.iconst 1, 1) := by decide +kernel
theorem dX3_readWind_78 : decode cX3_readWind 78 = .ok (.goto 4, 3) := by decide +kernel
theorem dX3_readWind_81 : decode cX3_readWind 81 = .ok (.iconst 0, 1) := by decide +kernel
theorem dX3_readWind_82 : decode cX3_readWind 82 = .ok (.ireturn, 1) := by decide +kernel
set_option maxRecDepth 20000 in
theorem ggX3_readHours_X3_take : GoodIn wsX3_readHours wsX3_take := goodIn_r _ [6, 7, 8, 9, 10, 11, 12, 13, 14, 15, 16, 17, 18, 27, 28, 29, 30, 31, 32, 33, 34, 35] (by decide +kernel) (by decide +kernel)
set_option maxRecDepth 20000 in
theorem gX3_readHours_X3_take : GoodIn wsX3_readHours (wsV RX3 42 RX3 yX3_take wsX3_take) := goodIn_app (goodIn_of _ (by decide +kernel)) ggX3_readHours_X3_take
set_option maxRecDepth 20000 in
theorem ggX3_readHours_X3_readNumber : GoodIn wsX3_readHours wsX3_readNumber := goodIn_r _ [22, 7, 8, 23, 24, 25, 12, 26, 14, 15, 16, 17, 18, 27, 28, 29, 30, 31, 32, 33, 34, 35] (by decide +kernel) (by decide +kernel)
set_option maxRecDepth 20000 in
theorem gX3_readHours_X3_readNumber : GoodIn wsX3_readHours (wsV RX3 60 RX3 yX3_readNumber wsX3_readNumber) := goodIn_app (goodIn_of _ (by decide +kernel)) ggX3_readHours_X3_readNumber
theorem dX3_readHours_0 : decode cX3_readHours 0 = .ok (.aload_n 0, 1) := by decide +kernel
theorem dX3_readHours_1 : decode cX3_readHours 1 = .ok (.getfield 28, 3) := by decide +kernel
theorem dX3_readHours_4 : decode cX3_readHours 4 = .ok (.iload_n 1, 1) := by decide +kernel
theorem dX3_readHours_5 : decode cX3_readHours 5 = .ok (.iconst 1, 1) := by decide +kernel
theorem dX3_readHours_6 : decode cX3_readHours 6 = .ok (.iastore, 1) := by decide +kernel
theorem dX3_readHours_7 : decode cX3_readHours 7 = .ok (.aload_n 0, 1) := by decide +kernel
theorem dX3_readHours_8 : decode cX3_readHours 8 = .ok (.bipush 42, 2) := by decide +kernel
theorem dX3_readHours_10 : decode cX3_readHours 10 = .ok (.invokevirtual 42, 3) := by decide +kernel
theorem dX3_readHours_13 : decode cX3_readHours 13 = .ok (.ifCond .ne 5, 3) := by decide +kernel
theorem dX3_readHours_16 : decode cX3_readHours 16 = .ok (.iconst 1, 1) := by decide +kernel
theorem dX3_readHours_17 : decode cX3_readHours 17 = .ok (.ireturn, 1) := by decide +kernel
theorem dX3_readHours_18 : decode cX3_readHours 18 = .ok (.aload_n 0, 1) := by decide +kernel
theorem dX3_readHours_19 : decode cX3_readHours 19 = .ok (.getfield 28, 3) := by decide +kernel
theorem dX3_readHours_22 : decode cX3_readHours 22 = .ok (.iload_n 1, 1) := by decide +kernel
theorem dX3_readHours_23 : decode cX3_readHours 23 = .ok (.aload_n 0, 1) := by decide +kernel
theorem dX3_readHours_24 : decode cX3_readHours 24 = .ok (.iconst 1, 1) := by decide +kernel
theorem dX3_readHours_25 : decode cX3_readHours 25 = .ok (.bipush 99, 2) := by decide +kernel
theorem dX3_readHours_27 : decode cX3_readHours 27 = .ok (.invokevirtual 60, 3) := by decide +kernel
theorem dX3_readHours_30 : decode cX3_readHours 30 = .ok (.iastore, 1) := by decide +kernel
theorem dX3_readHours_31 : decode cX3_readHours 31 = .ok (.aload_n 0, 1) := by decide +kernel
theorem dX3_readHours_32 : decode cX3_readHours 32 = .ok (.getfield 28, 3) := by decide +kernel
theorem dX3_readHours_35 : decode cX3_readHours 35 = .ok (.iload_n 1, 1) := by decide +kernel
theorem dX3_readHours_36 : decode cX3_readHours 36 = .ok (.iaload, 1) := by decide +kernel
theorem dX3_readHours_37 : decode cX3_readHours 37 = .ok (.ifCond .le 7, 3) := by decide +kernel
theorem dX3_readHours_40 : decode cX3_readHours 40 = .ok (.iconst 1, 1) := by decide +kernel
theorem dX3_readHours_41 : decode cX3_readHours 41 = .ok (.goto 4, 3) := by decide +kernel
theorem dX3_readHours_44 : decode cX3_readHours 44 = .ok (.iconst 0, 1) := by decide +kernel
theorem dX3_readHours_45 : decode cX3_readHours 45 = .ok (.ireturn, 1) := by decide +kernel
set_option maxRecDepth 20000 in
theorem ggX3_take_X5_isAt : GoodIn wsX3_take wsX5_isAt := goodIn_r _ [7, 8, 9, 10, 11, 12, 20, 21] (by decide +kernel) (by decide +kernel)
set_option maxRecDepth 20000 in
theorem gX3_take_X5_isAt : GoodIn wsX3_take (wsV RX3 73 RX5 yX5_isAt wsX5_isAt) := goodIn_app (goodIn_of _ (by decide +kernel)) ggX3_take_X5_isAt
theorem dX3_take_0 : decode cX3_take 0 = .ok (.aload_n 0, 1) := by decide +kernel
theorem dX3_take_1 : decode cX3_take 1 = .ok (.getfield 12, 3) := by decide +kernel
theorem dX3_take_4 : decode cX3_take 4 = .ok (.aload_n 0, 1) := by decide +kernel
theorem dX3_take_5 : decode cX3_take 5 = .ok (.getfield 35, 3) := by decide +kernel
theorem dX3_take_8 : decode cX3_take 8 = .ok (.iload_n 1, 1) := by decide +kernel
theorem dX3_take_9 : decode cX3_take 9 = .ok (.invokevirtual 73, 3) := by decide +kernel
theorem dX3_take_12 : decode cX3_take 12 = .ok (.ifCond .ne 5, 3) := by decide +kernel
theorem dX3_take_15 : decode cX3_take 15 = .ok (.iconst 0, 1) := by decide +kernel
theorem dX3_take_16 : decode cX3_take 16 = .ok (.ireturn, 1) := by decide +kernel
theorem dX3_take_17 : decode cX3_take 17 = .ok (.aload_n 0, 1) := by decide +kernel
theorem dX3_take_18 : decode cX3_take 18 = .ok (.dup, 1) := by decide +kernel
theorem dX3_take_19 : decode cX3_take 19 = .ok (.getfield 35, 3) := by decide +kernel
theorem dX3_take_22 : decode cX3_take 22 = .ok (.iconst 1, 1) := by decide +kernel
theorem dX3_take_23 : decode cX3_take 23 = .ok (.iadd, 1) := by decide +kernel
theorem dX3_take_24 : decode cX3_take 24 = .ok (.putfield 35, 3) := by decide +kernel
theorem dX3_take_27 : decode cX3_take 27 = .ok (.iconst 1, 1) := by decide +kernel
theorem dX3_take_28 : decode cX3_take 28 = .ok (.ireturn, 1) := by decide +kernel
set_option maxRecDepth 20000 in
theorem ggX3_readNumber_X5_digitAt : GoodIn wsX3_readNumber wsX5_digitAt := goodIn_r _ [7, 8, 9, 10, 11, 12, 20, 21] (by decide +kernel) (by decide +kernel)
set_option maxRecDepth 20000 in
theorem gX3_readNumber_X5_digitAt : GoodIn wsX3_readNumber (wsV RX3 77 RX5 yX5_digitAt wsX5_digitAt) := goodIn_app (goodIn_of _ (by decide +kernel)) ggX3_readNumber_X5_digitAt
set_option maxRecDepth 20000 in
theorem ggX3_readNumber_X6_isBetween : GoodIn wsX3_readNumber wsX6_isBetween := goodIn_r _ [12] (by decide +kernel) (by decide +kernel)
set_option maxRecDepth 20000 in
theorem gX3_readNumber_X6_isBetween_n81 : GoodIn wsX3_readNumber (wsX6_isBetween) := ggX3_readNumber_X6_isBetween
theorem dX3_readNumber_0 : decode cX3_readNumber 0 = .ok (.aload_n 0, 1) := by decide +kernel
theorem dX3_readNumber_1 : decode cX3_readNumber 1 = .ok (.getfield 12, 3) := by decide +kernel
theorem dX3_readNumber_4 : decode cX3_readNumber 4 = .ok (.aload_n 0, 1) := by decide +kernel
theorem dX3_readNumber_5 : decode cX3_readNumber 5 = .ok (.getfield 35, 3) := by decide +kernel
theorem dX3_readNumber_8 : decode cX3_readNumber 8 = .ok (.invokevirtual 77, 3) := by decide +kernel
theorem dX3_readNumber_11 : decode cX3_readNumber 11 = .ok (.istore_n 3, 1) := by decide +kernel
theorem dX3_readNumber_12 : decode cX3_readNumber 12 = .ok (.iload_n 3, 1) := by decide +kernel
theorem dX3_readNumber_13 : decode cX3_readNumber 13 = .ok (.iload_n 1, 1) := by decide +kernel
theorem dX3_readNumber_14 : decode cX3_readNumber 14 = .ok (.iload_n 2, 1) := by decide +kernel
theorem dX3_readNumber_15 : decode cX3_readNumber 15 = .ok (.invokestatic 81, 3) := by decide +kernel
theorem dX3_readNumber_18 : decode cX3_readNumber 18 = .ok (.ifCond .ne 5, 3) := by decide +kernel
theorem dX3_readNumber_21 : decode cX3_readNumber 21 = .ok (.iconst (-1), 1) := by decide +kernel
theorem dX3_readNumber_22 : decode cX3_readNumber 22 = .ok (.ireturn, 1) := by decide +kernel
theorem dX3_readNumber_23 : decode cX3_readNumber 23 = .ok (.aload_n 0, 1) := by decide +kernel
theorem dX3_readNumber_24 : decode cX3_readNumber 24 = .ok (.dup, 1) := by decide +kernel
theorem dX3_readNumber_25 : decode cX3_readNumber 25 = .ok (.getfield 35, 3) := by decide +kernel
theorem dX3_readNumber_28 : decode cX3_readNumber 28 = .ok (.iconst 1, 1) := by decide +kernel
theorem dX3_readNumber_29 : decode cX3_readNumber 29 = .ok (.iadd, 1) := by decide +kernel
theorem dX3_readNumber_30 : decode cX3_readNumber 30 = .ok (.putfield 35, 3) := by decide +kernel
theorem dX3_readNumber_33 : decode cX3_readNumber 33 = .ok (.aload_n 0, 1) := by decide +kernel
theorem dX3_readNumber_34 : decode cX3_readNumber 34 = .ok (.getfield 12, 3) := by decide +kernel
theorem dX3_readNumber_37 : decode cX3_readNumber 37 = .ok (.aload_n 0, 1) := by decide +kernel
theorem dX3_readNumber_38 : decode cX3_readNumber 38 = .ok (.getfield 35, 3) := by decide +kernel
theorem dX3_readNumber_41 : decode cX3_readNumber 41 = .ok (.invokevirtual 77, 3) := by decide +kernel
theorem dX3_readNumber_44 : decode cX3_readNumber 44 = .ok (.istore 4, 2) := by decide +kernel
theorem dX3_readNumber_46 : decode cX3_readNumber 46 = .ok (.iload_n 3, 1) := by decide +kernel
theorem dX3_readNumber_47 : decode cX3_readNumber 47 = .ok (.ifCond .le 37, 3) := by decide +kernel
theorem dX3_readNumber_50 : decode cX3_readNumber 50 = .ok (.iload 4, 2) := by decide +kernel
theorem dX3_readNumber_52 : decode cX3_readNumber 52 = .ok (.ifCond .lt 32, 3) := by decide +kernel
theorem dX3_readNumber_55 : decode cX3_readNumber 55 = .ok (.iload_n 3, 1) := by decide +kernel
theorem dX3_readNumber_56 : decode cX3_readNumber 56 = .ok (.bipush 10, 2) := by decide +kernel
theorem dX3_readNumber_58 : decode cX3_readNumber 58 = .ok (.imul, 1) := by decide +kernel
theorem dX3_readNumber_59 : decode cX3_readNumber 59 = .ok (.iload 4, 2) := by decide +kernel
theorem dX3_readNumber_61 : decode cX3_readNumber 61 = .ok (.iadd, 1) := by decide +kernel
theorem dX3_readNumber_62 : decode cX3_readNumber 62 = .ok (.iload_n 2, 1) := by decide +kernel
theorem dX3_readNumber_63 : decode cX3_readNumber 63 = .ok (.if_icmp .gt 21, 3) := by decide +kernel
theorem dX3_readNumber_66 : decode cX3_readNumber 66 = .ok (.iload_n 3, 1) := by decide +kernel
theorem dX3_readNumber_67 : decode cX3_readNumber 67 = .ok (.bipush 10, 2) := by decide +kernel
theorem dX3_readNumber_69 : decode cX3_readNumber 69 = .ok (.imul, 1) := by decide +kernel
theorem dX3_readNumber_70 : decode cX3_readNumber 70 = .ok (.iload 4, 2) := by decide +kernel
theorem dX3_readNumber_72 : decode cX3_readNumber 72 = .ok (.iadd, 1) := by decide +kernel
theorem dX3_readNumber_73 : decode cX3_readNumber 73 = .ok (.istore_n 3, 1) := by decide +kernel
theorem dX3_readNumber_74 : decode cX3_readNumber 74 = .ok (.aload_n 0, 1) := by decide +kernel
theorem dX3_readNumber_75 : decode cX3_readNumber 75 = .ok (.dup, 1) := by decide +kernel
theorem dX3_readNumber_76 : decode cX3_readNumber 76 = .ok (.getfield 35, 3) := by decide +kernel
theorem dX3_readNumber_79 : decode cX3_readNumber 79 = .ok (.iconst 1, 1) := by decide +kernel
theorem dX3_readNumber_80 : decode cX3_readNumber 80 = .ok (.iadd, 1) := by decide +kernel
theorem dX3_readNumber_81 : decode cX3_readNumber 81 = .ok (.putfield 35, 3) := by decide +kernel
theorem dX3_readNumber_84 : decode cX3_readNumber 84 = .ok (.iload_n 3, 1) := by decide +kernel
theorem dX3_readNumber_85 : decode cX3_readNumber 85 = .ok (.ireturn, 1) := by decide +kernel
theorem dX4_init_0 : decode cX4_init 0 = .ok (.aload_n 0, 1) := by decide +kernel
theorem dX4_init_1 : decode cX4_init 1 = .ok (.invokespecial 3, 3) := by decide +kernel
theorem dX4_init_4 : decode cX4_init 4 = .ok (.aload_n 0, 1) := by decide +kernel
theorem dX4_init_5 : decode cX4_init 5 = .ok (.bipush 48, 2) := by decide +kernel
theorem dX4_init_7 : decode cX4_init 7 = .ok (.newarray .int, 2) := by decide +kernel
theorem dX4_init_9 : decode cX4_init 9 = .ok (.putfield 9, 3) := by decide +kernel
theorem dX4_init_12 : decode cX4_init 12 = .ok (.aload_n 0, 1) := by decide +kernel
theorem dX4_init_13 : decode cX4_init 13 = .ok (.bipush 48, 2) := by decide +kernel
theorem dX4_init_15 : decode cX4_init 15 = .ok (.newarray .int, 2) := by decide +kernel
theorem dX4_init_17 : decode cX4_init 17 = .ok (.putfield 15, 3) := by decide +kernel
theorem dX4_init_20 : decode cX4_init 20 = .ok (.aload_n 0, 1) := by decide +kernel
theorem dX4_init_21 : decode cX4_init 21 = .ok (.bipush 48, 2) := by decide +kernel
theorem dX4_init_23 : decode cX4_init 23 = .ok (.newarray .boolean, 2) := by decide +kernel
theorem dX4_init_25 : decode cX4_init 25 = .ok (.putfield 18, 3) := by decide +kernel
theorem dX4_init_28 : decode cX4_init 28 = .ok (.aload_n 0, 1) := by decide +kernel
theorem dX4_init_29 : decode cX4_init 29 = .ok (.iconst 0, 1) := by decide +kernel
theorem dX4_init_30 : decode cX4_init 30 = .ok (.putfield 22, 3) := by decide +kernel
theorem dX4_init_33 : decode cX4_init 33 = .ok (.return_, 1) := by decide +kernel
set_option maxRecDepth 20000 in
theorem ggX4_fillByRank_X4_divide : GoodIn wsX4_fillByRank wsX4_divide := goodIn_r _ [8, 2, 3, 1, 9, 10, 11, 12, 13, 14, 15, 16, 17, 7, 18, 19, 20, 21, 22, 23, 24, 25, 26, 27, 28, 29, 30, 31, 32, 33, 38, 39, 40, 41, 42, 43] (by decide +kernel) (by decide +kernel)
set_option maxRecDepth 20000 in
theorem gX4_fillByRank_X4_divide : GoodIn wsX4_fillByRank (wsV RX4 26 RX4 yX4_divide wsX4_divide) := goodIn_app (goodIn_of _ (by decide +kernel)) ggX4_fillByRank_X4_divide
set_option maxRecDepth 20000 in
theorem ggX4_fillByRank_X4_partsAhead : GoodIn wsX4_fillByRank wsX4_partsAhead := goodIn_r _ [37, 1, 38, 39, 40, 41] (by decide +kernel) (by decide +kernel)
set_option maxRecDepth 20000 in
theorem gX4_fillByRank_X4_partsAhead : GoodIn wsX4_fillByRank (wsV RX4 30 RX4 yX4_partsAhead wsX4_partsAhead) := goodIn_app (goodIn_of _ (by decide +kernel)) ggX4_fillByRank_X4_partsAhead
theorem dX4_fillByRank_0 : decode cX4_fillByRank 0 = .ok (.aload_n 0, 1) := by decide +kernel
theorem dX4_fillByRank_1 : decode cX4_fillByRank 1 = .ok (.aload_n 1, 1) := by decide +kernel
theorem dX4_fillByRank_2 : decode cX4_fillByRank 2 = .ok (.iload_n 2, 1) := by decide +kernel
theorem dX4_fillByRank_3 : decode cX4_fillByRank 3 = .ok (.invokevirtual 26, 3) := by decide +kernel
theorem dX4_fillByRank_6 : decode cX4_fillByRank 6 = .ok (.iconst 0, 1) := by decide +kernel
theorem dX4_fillByRank_7 : decode cX4_fillByRank 7 = .ok (.istore_n 3, 1) := by decide +kernel
theorem dX4_fillByRank_8 : decode cX4_fillByRank 8 = .ok (.iload_n 3, 1) := by decide +kernel
theorem dX4_fillByRank_9 : decode cX4_fillByRank 9 = .ok (.bipush 48, 2) := by decide +kernel
theorem dX4_fillByRank_11 : decode cX4_fillByRank 11 = .ok (.if_icmp .ge 40, 3) := by decide +kernel
theorem dX4_fillByRank_14 : decode cX4_fillByRank 14 = .ok (.aload_n 0, 1) := by decide +kernel
theorem dX4_fillByRank_15 : decode cX4_fillByRank 15 = .ok (.getfield 15, 3) := by decide +kernel
theorem dX4_fillByRank_18 : decode cX4_fillByRank 18 = .ok (.iload_n 3, 1) := by decide +kernel
theorem dX4_fillByRank_19 : decode cX4_fillByRank 19 = .ok (.iaload, 1) := by decide +kernel
theorem dX4_fillByRank_20 : decode cX4_fillByRank 20 = .ok (.ifCond .le 25, 3) := by decide +kernel
theorem dX4_fillByRank_23 : decode cX4_fillByRank 23 = .ok (.aload_n 0, 1) := by decide +kernel
theorem dX4_fillByRank_24 : decode cX4_fillByRank 24 = .ok (.iload_n 3, 1) := by decide +kernel
theorem dX4_fillByRank_25 : decode cX4_fillByRank 25 = .ok (.invokevirtual 30, 3) := by decide +kernel
theorem dX4_fillByRank_28 : decode cX4_fillByRank 28 = .ok (.aload_n 0, 1) := by decide +kernel
theorem dX4_fillByRank_29 : decode cX4_fillByRank 29 = .ok (.getfield 22, 3) := by decide +kernel
theorem dX4_fillByRank_32 : decode cX4_fillByRank 32 = .ok (.if_icmp .ge 13, 3) := by decide +kernel
theorem dX4_fillByRank_35 : decode cX4_fillByRank 35 = .ok (.aload_n 0, 1) := by decide +kernel
theorem dX4_fillByRank_36 : decode cX4_fillByRank 36 = .ok (.getfield 9, 3) := by decide +kernel
theorem dX4_fillByRank_39 : decode cX4_fillByRank 39 = .ok (.iload_n 3, 1) := by decide +kernel
theorem dX4_fillByRank_40 : decode cX4_fillByRank 40 = .ok (.dup2, 1) := by decide +kernel
theorem dX4_fillByRank_41 : decode cX4_fillByRank 41 = .ok (.iaload, 1) := by decide +kernel
theorem dX4_fillByRank_42 : decode cX4_fillByRank 42 = .ok (.iconst 1, 1) := by decide +kernel
theorem dX4_fillByRank_43 : decode cX4_fillByRank 43 = .ok (.iadd, 1) := by decide +kernel
theorem dX4_fillByRank_44 : decode cX4_fillByRank 44 = .ok (.iastore, 1) := by decide +kernel
theorem dX4_fillByRank_45 : decode cX4_fillByRank 45 = .ok (.iinc 3 1, 3) := by decide +kernel
theorem dX4_fillByRank_48 : decode cX4_fillByRank 48 = .ok (.goto (-40), 3) := by decide +kernel
theorem dX4_fillByRank_51 : decode cX4_fillByRank 51 = .ok (.return_, 1) := by decide +kernel
set_option maxRecDepth 20000 in
theorem ggX4_fillByDealing_X4_divide : GoodIn wsX4_fillByDealing wsX4_divide := goodIn_r _ [7, 2, 8, 9, 10, 11, 12, 13, 14, 15, 16, 17, 18, 6, 19, 20, 21, 22, 23, 24, 25, 26, 27, 28, 29, 30, 31, 32, 33, 34, 39, 40, 41, 42, 43, 44] (by decide +kernel) (by decide +kernel)
set_option maxRecDepth 20000 in
theorem gX4_fillByDealing_X4_divide : GoodIn wsX4_fillByDealing (wsV RX4 26 RX4 yX4_divide wsX4_divide) := goodIn_app (goodIn_of _ (by decide +kernel)) ggX4_fillByDealing_X4_divide
set_option maxRecDepth 20000 in
theorem ggX4_fillByDealing_X4_giveOne : GoodIn wsX4_fillByDealing wsX4_giveOne := goodIn_r _ [38, 1, 9, 8, 39, 40, 41, 42] (by decide +kernel) (by decide +kernel)
set_option maxRecDepth 20000 in
theorem gX4_fillByDealing_X4_giveOne : GoodIn wsX4_fillByDealing (wsV RX4 34 RX4 yX4_giveOne wsX4_giveOne) := goodIn_app (goodIn_of _ (by decide +kernel)) ggX4_fillByDealing_X4_giveOne
theorem dX4_fillByDealing_0 : decode cX4_fillByDealing 0 = .ok (.aload_n 0, 1) := by decide +kernel
theorem dX4_fillByDealing_1 : decode cX4_fillByDealing 1 = .ok (.aload_n 1, 1) := by decide +kernel
theorem dX4_fillByDealing_2 : decode cX4_fillByDealing 2 = .ok (.iload_n 2, 1) := by decide +kernel
theorem dX4_fillByDealing_3 : decode cX4_fillByDealing 3 = .ok (.invokevirtual 26, 3) := by decide +kernel
theorem dX4_fillByDealing_6 : decode cX4_fillByDealing 6 = .ok (.iconst 0, 1) := by decide +kernel
theorem dX4_fillByDealing_7 : decode cX4_fillByDealing 7 = .ok (.istore_n 3, 1) := by decide +kernel
theorem dX4_fillByDealing_8 : decode cX4_fillByDealing 8 = .ok (.iload_n 3, 1) := by decide +kernel
theorem dX4_fillByDealing_9 : decode cX4_fillByDealing 9 = .ok (.bipush 48, 2) := by decide +kernel
theorem dX4_fillByDealing_11 : decode cX4_fillByDealing 11 = .ok (.if_icmp .ge 16, 3) := by decide +kernel
theorem dX4_fillByDealing_14 : decode cX4_fillByDealing 14 = .ok (.aload_n 0, 1) := by decide +kernel
theorem dX4_fillByDealing_15 : decode cX4_fillByDealing 15 = .ok (.getfield 18, 3) := by decide +kernel
theorem dX4_fillByDealing_18 : decode cX4_fillByDealing 18 = .ok (.iload_n 3, 1) := by decide +kernel
theorem dX4_fillByDealing_19 : decode cX4_fillByDealing 19 = .ok (.iconst 0, 1) := by decide +kernel
theorem dX4_fillByDealing_20 : decode cX4_fillByDealing 20 = .ok (.bastore, 1) := by decide +kernel
theorem dX4_fillByDealing_21 : decode cX4_fillByDealing 21 = .ok (.iinc 3 1, 3) := by decide +kernel
theorem dX4_fillByDealing_24 : decode cX4_fillByDealing 24 = .ok (.goto (-16), 3) := by decide +kernel
theorem dX4_fillByDealing_27 : decode cX4_fillByDealing 27 = .ok (.iconst 0, 1) := by decide +kernel
theorem dX4_fillByDealing_28 : decode cX4_fillByDealing 28 = .ok (.istore_n 3, 1) := by decide +kernel
theorem dX4_fillByDealing_29 : decode cX4_fillByDealing 29 = .ok (.iload_n 3, 1) := by decide +kernel
theorem dX4_fillByDealing_30 : decode cX4_fillByDealing 30 = .ok (.aload_n 0, 1) := by decide +kernel
theorem dX4_fillByDealing_31 : decode cX4_fillByDealing 31 = .ok (.getfield 22, 3) := by decide +kernel
theorem dX4_fillByDealing_34 : decode cX4_fillByDealing 34 = .ok (.if_icmp .ge 13, 3) := by decide +kernel
theorem dX4_fillByDealing_37 : decode cX4_fillByDealing 37 = .ok (.aload_n 0, 1) := by decide +kernel
theorem dX4_fillByDealing_38 : decode cX4_fillByDealing 38 = .ok (.invokevirtual 34, 3) := by decide +kernel
theorem dX4_fillByDealing_41 : decode cX4_fillByDealing 41 = .ok (.iinc 3 1, 3) := by decide +kernel
theorem dX4_fillByDealing_44 : decode cX4_fillByDealing 44 = .ok (.goto (-15), 3) := by decide +kernel
theorem dX4_fillByDealing_47 : decode cX4_fillByDealing 47 = .ok (.return_, 1) := by decide +kernel
set_option maxRecDepth 20000 in
theorem ggX4_divide_X0_windyHours : GoodIn wsX4_divide wsX0_windyHours := goodIn_r _ [8, 9, 34, 35] (by decide +kernel) (by decide +kernel)
set_option maxRecDepth 20000 in
theorem gX4_divide_X0_windyHours : GoodIn wsX4_divide (wsV RX4 37 RX0 yX0_windyHours wsX0_windyHours) := goodIn_app (goodIn_of _ (by decide +kernel)) ggX4_divide_X0_windyHours
set_option maxRecDepth 20000 in
theorem ggX4_divide_X4_makeEmpty : GoodIn wsX4_divide wsX4_makeEmpty := goodIn_r _ [14, 1, 2, 3, 30, 31, 32, 33] (by decide +kernel) (by decide +kernel)
set_option maxRecDepth 20000 in
theorem gX4_divide_X4_makeEmpty : GoodIn wsX4_divide (wsV RX4 42 RX4 yX4_makeEmpty wsX4_makeEmpty) := goodIn_app (goodIn_of _ (by decide +kernel)) ggX4_divide_X4_makeEmpty
set_option maxRecDepth 20000 in
theorem ggX4_divide_X6_partOf : GoodIn wsX4_divide wsX6_partOf := goodIn_r _ [17] (by decide +kernel) (by decide +kernel)
set_option maxRecDepth 20000 in
theorem gX4_divide_X6_partOf_n45 : GoodIn wsX4_divide (wsX6_partOf) := ggX4_divide_X6_partOf
set_option maxRecDepth 20000 in
theorem ggX4_divide_X0_partHours : GoodIn wsX4_divide wsX0_partHours := goodIn_r _ [21, 22, 23, 24, 7, 25, 9, 26, 27, 28, 29, 34, 35] (by decide +kernel) (by decide +kernel)
set_option maxRecDepth 20000 in
theorem gX4_divide_X0_partHours : GoodIn wsX4_divide (wsV RX4 49 RX0 yX0_partHours wsX0_partHours) := goodIn_app (goodIn_of _ (by decide +kernel)) ggX4_divide_X0_partHours
theorem dX4_divide_0 : decode cX4_divide 0 = .ok (.aload_n 1, 1) := by decide +kernel
theorem dX4_divide_1 : decode cX4_divide 1 = .ok (.iload_n 2, 1) := by decide +kernel
theorem dX4_divide_2 : decode cX4_divide 2 = .ok (.invokevirtual 37, 3) := by decide +kernel
theorem dX4_divide_5 : decode cX4_divide 5 = .ok (.istore_n 3, 1) := by decide +kernel
theorem dX4_divide_6 : decode cX4_divide 6 = .ok (.iload_n 3, 1) := by decide +kernel
theorem dX4_divide_7 : decode cX4_divide 7 = .ok (.ifCond .gt 8, 3) := by decide +kernel
theorem dX4_divide_10 : decode cX4_divide 10 = .ok (.aload_n 0, 1) := by decide +kernel
theorem dX4_divide_11 : decode cX4_divide 11 = .ok (.invokevirtual 42, 3) := by decide +kernel
theorem dX4_divide_14 : decode cX4_divide 14 = .ok (.return_, 1) := by decide +kernel
theorem dX4_divide_15 : decode cX4_divide 15 = .ok (.aload_n 0, 1) := by decide +kernel
theorem dX4_divide_16 : decode cX4_divide 16 = .ok (.bipush 100, 2) := by decide +kernel
theorem dX4_divide_18 : decode cX4_divide 18 = .ok (.putfield 22, 3) := by decide +kernel
theorem dX4_divide_21 : decode cX4_divide 21 = .ok (.iconst 0, 1) := by decide +kernel
theorem dX4_divide_22 : decode cX4_divide 22 = .ok (.istore 4, 2) := by decide +kernel
theorem dX4_divide_24 : decode cX4_divide 24 = .ok (.iload 4, 2) := by decide +kernel
theorem dX4_divide_26 : decode cX4_divide 26 = .ok (.bipush 16, 2) := by decide +kernel
theorem dX4_divide_28 : decode cX4_divide 28 = .ok (.if_icmp .ge 85, 3) := by decide +kernel
theorem dX4_divide_31 : decode cX4_divide 31 = .ok (.iconst 0, 1) := by decide +kernel
theorem dX4_divide_32 : decode cX4_divide 32 = .ok (.istore 5, 2) := by decide +kernel
theorem dX4_divide_34 : decode cX4_divide 34 = .ok (.iload 5, 2) := by decide +kernel
theorem dX4_divide_36 : decode cX4_divide 36 = .ok (.iconst 3, 1) := by decide +kernel
theorem dX4_divide_37 : decode cX4_divide 37 = .ok (.if_icmp .ge 70, 3) := by decide +kernel
theorem dX4_divide_40 : decode cX4_divide 40 = .ok (.iload 4, 2) := by decide +kernel
theorem dX4_divide_42 : decode cX4_divide 42 = .ok (.iload 5, 2) := by decide +kernel
theorem dX4_divide_44 : decode cX4_divide 44 = .ok (.invokestatic 45, 3) := by decide +kernel
theorem dX4_divide_47 : decode cX4_divide 47 = .ok (.istore 6, 2) := by decide +kernel
theorem dX4_divide_49 : decode cX4_divide 49 = .ok (.bipush 100, 2) := by decide +kernel
theorem dX4_divide_51 : decode cX4_divide 51 = .ok (.aload_n 1, 1) := by decide +kernel
theorem dX4_divide_52 : decode cX4_divide 52 = .ok (.iload_n 2, 1) := by decide +kernel
theorem dX4_divide_53 : decode cX4_divide 53 = .ok (.iload 4, 2) := by decide +kernel
theorem dX4_divide_55 : decode cX4_divide 55 = .ok (.iload 5, 2) := by decide +kernel
theorem dX4_divide_57 : decode cX4_divide 57 = .ok (.invokevirtual 49, 3) := by decide +kernel
theorem dX4_divide_60 : decode cX4_divide 60 = .ok (.imul, 1) := by decide +kernel
theorem dX4_divide_61 : decode cX4_divide 61 = .ok (.istore 7, 2) := by decide +kernel
theorem dX4_divide_63 : decode cX4_divide 63 = .ok (.aload_n 0, 1) := by decide +kernel
theorem dX4_divide_64 : decode cX4_divide 64 = .ok (.getfield 9, 3) := by decide +kernel
theorem dX4_divide_67 : decode cX4_divide 67 = .ok (.iload 6, 2) := by decide +kernel
theorem dX4_divide_69 : decode cX4_divide 69 = .ok (.iload 7, 2) := by decide +kernel
theorem dX4_divide_71 : decode cX4_divide 71 = .ok (.iload_n 3, 1) := by decide +kernel
theorem dX4_divide_72 : decode cX4_divide 72 = .ok (.idiv, 1) := by decide +kernel
theorem dX4_divide_73 : decode cX4_divide 73 = .ok (.iastore, 1) := by decide +kernel
theorem dX4_divide_74 : decode cX4_divide 74 = .ok (.aload_n 0, 1) := by decide +kernel
theorem dX4_divide_75 : decode cX4_divide 75 = .ok (.getfield 15, 3) := by decide +kernel
theorem dX4_divide_78 : decode cX4_divide 78 = .ok (.iload 6, 2) := by decide +kernel
theorem dX4_divide_80 : decode cX4_divide 80 = .ok (.iload 7, 2) := by decide +kernel
theorem dX4_divide_82 : decode cX4_divide 82 = .ok (.iload_n 3, 1) := by decide +kernel
theorem dX4_divide_83 : decode cX4_divide 83 = .ok (.irem, 1) := by decide +kernel
theorem dX4_divide_84 : decode cX4_divide 84 = .ok (.iastore, 1) := by decide +kernel
theorem dX4_divide_85 : decode cX4_divide 85 = .ok (.aload_n 0, 1) := by decide +kernel
theorem dX4_divide_86 : decode cX4_divide 86 = .ok (.dup, 1) := by decide +kernel
theorem dX4_divide_87 : decode cX4_divide 87 = .ok (.getfield 22, 3) := by decide +kernel
theorem dX4_divide_90 : decode cX4_divide 90 = .ok (.aload_n 0, 1) := by decide +kernel
theorem dX4_divide_91 : decode cX4_divide 91 = .ok (.getfield 9, 3) := by decide +kernel
theorem dX4_divide_94 : decode cX4_divide 94 = .ok (.iload 6, 2) := by decide +kernel
theorem dX4_divide_96 : decode cX4_divide 96 = .ok (.iaload, 1) := by decide +kernel
theorem dX4_divide_97 : decode cX4_divide 97 = .ok (.isub, 1) := by decide +kernel
theorem dX4_divide_98 : decode cX4_divide 98 = .ok (.putfield 22, 3) := by decide +kernel
theorem dX4_divide_101 : decode cX4_divide 101 = .ok (.iinc 5 1, 3) := by decide +kernel
theorem dX4_divide_104 : decode cX4_divide 104 = .ok (.goto (-70), 3) := by decide +kernel
theorem dX4_divide_107 : decode cX4_divide 107 = .ok (.iinc 4 1, 3) := by decide +kernel
theorem dX4_divide_110 : decode cX4_divide 110 = .ok (.goto (-86), 3) := by decide +kernel
theorem dX4_divide_113 : decode cX4_divide 113 = .ok (.return_, 1) := by decide +kernel
theorem dX4_makeEmpty_0 : decode cX4_makeEmpty 0 = .ok (.aload_n 0, 1) := by decide +kernel
theorem dX4_makeEmpty_1 : decode cX4_makeEmpty 1 = .ok (.iconst 0, 1) := by decide +kernel
theorem dX4_makeEmpty_2 : decode cX4_makeEmpty 2 = .ok (.putfield 22, 3) := by decide +kernel
theorem dX4_makeEmpty_5 : decode cX4_makeEmpty 5 = .ok (.iconst 0, 1) := by decide +kernel
theorem dX4_makeEmpty_6 : decode cX4_makeEmpty 6 = .ok (.istore_n 1, 1) := by decide +kernel
theorem dX4_makeEmpty_7 : decode cX4_makeEmpty 7 = .ok (.iload_n 1, 1) := by decide +kernel
theorem dX4_makeEmpty_8 : decode cX4_makeEmpty 8 = .ok (.bipush 48, 2) := by decide +kernel
theorem dX4_makeEmpty_10 : decode cX4_makeEmpty 10 = .ok (.if_icmp .ge 23, 3) := by decide +kernel
theorem dX4_makeEmpty_13 : decode cX4_makeEmpty 13 = .ok (.aload_n 0, 1) := by decide +kernel
theorem dX4_makeEmpty_14 : decode cX4_makeEmpty 14 = .ok (.getfield 9, 3) := by decide +kernel
theorem dX4_makeEmpty_17 : decode cX4_makeEmpty 17 = .ok (.iload_n 1, 1) := by decide +kernel
theorem dX4_makeEmpty_18 : decode cX4_makeEmpty 18 = .ok (.iconst 0, 1) := by decide +kernel
theorem dX4_makeEmpty_19 : decode cX4_makeEmpty 19 = .ok (.iastore, 1) := by decide +kernel
theorem dX4_makeEmpty_20 : decode cX4_makeEmpty 20 = .ok (.aload_n 0, 1) := by decide +kernel
theorem dX4_makeEmpty_21 : decode cX4_makeEmpty 21 = .ok (.getfield 15, 3) := by decide +kernel
theorem dX4_makeEmpty_24 : decode cX4_makeEmpty 24 = .ok (.iload_n 1, 1) := by decide +kernel
theorem dX4_makeEmpty_25 : decode cX4_makeEmpty 25 = .ok (.iconst 0, 1) := by decide +kernel
theorem dX4_makeEmpty_26 : decode cX4_makeEmpty 26 = .ok (.iastore, 1) := by decide +kernel
theorem dX4_makeEmpty_27 : decode cX4_makeEmpty 27 = .ok (.iinc 1 1, 3) := by decide +kernel
theorem dX4_makeEmpty_30 : decode cX4_makeEmpty 30 = .ok (.goto (-23), 3) := by decide +kernel
theorem dX4_makeEmpty_33 : decode cX4_makeEmpty 33 = .ok (.return_, 1) := by decide +kernel
theorem dX4_partsAhead_0 : decode cX4_partsAhead 0 = .ok (.iconst 0, 1) := by decide +kernel
theorem dX4_partsAhead_1 : decode cX4_partsAhead 1 = .ok (.istore_n 2, 1) := by decide +kernel
theorem dX4_partsAhead_2 : decode cX4_partsAhead 2 = .ok (.iconst 0, 1) := by decide +kernel
theorem dX4_partsAhead_3 : decode cX4_partsAhead 3 = .ok (.istore_n 3, 1) := by decide +kernel
theorem dX4_partsAhead_4 : decode cX4_partsAhead 4 = .ok (.iload_n 3, 1) := by decide +kernel
theorem dX4_partsAhead_5 : decode cX4_partsAhead 5 = .ok (.bipush 48, 2) := by decide +kernel
theorem dX4_partsAhead_7 : decode cX4_partsAhead 7 = .ok (.if_icmp .ge 71, 3) := by decide +kernel
theorem dX4_partsAhead_10 : decode cX4_partsAhead 10 = .ok (.aload_n 0, 1) := by decide +kernel
theorem dX4_partsAhead_11 : decode cX4_partsAhead 11 = .ok (.getfield 15, 3) := by decide +kernel
theorem dX4_partsAhead_14 : decode cX4_partsAhead 14 = .ok (.iload_n 3, 1) := by decide +kernel
theorem dX4_partsAhead_15 : decode cX4_partsAhead 15 = .ok (.iaload, 1) := by decide +kernel
theorem dX4_partsAhead_16 : decode cX4_partsAhead 16 = .ok (.aload_n 0, 1) := by decide +kernel
theorem dX4_partsAhead_17 : decode cX4_partsAhead 17 = .ok (.getfield 15, 3) := by decide +kernel
theorem dX4_partsAhead_20 : decode cX4_partsAhead 20 = .ok (.iload_n 1, 1) := by decide +kernel
theorem dX4_partsAhead_21 : decode cX4_partsAhead 21 = .ok (.iaload, 1) := by decide +kernel
theorem dX4_partsAhead_22 : decode cX4_partsAhead 22 = .ok (.if_icmp .le 7, 3) := by decide +kernel
theorem dX4_partsAhead_25 : decode cX4_partsAhead 25 = .ok (.iconst 1, 1) := by decide +kernel
theorem dX4_partsAhead_26 : decode cX4_partsAhead 26 = .ok (.goto 4, 3) := by decide +kernel
theorem dX4_partsAhead_29 : decode cX4_partsAhead 29 = .ok (.iconst 0, 1) := by decide +kernel
theorem dX4_partsAhead_30 : decode cX4_partsAhead 30 = .ok (.istore 4, 2) := by decide +kernel
theorem dX4_partsAhead_32 : decode cX4_partsAhead 32 = .ok (.aload_n 0, 1) := by decide +kernel
theorem dX4_partsAhead_33 : decode cX4_partsAhead 33 = .ok (.getfield 15, 3) := by decide +kernel
theorem dX4_partsAhead_36 : decode cX4_partsAhead 36 = .ok (.iload_n 3, 1) := by decide +kernel
theorem dX4_partsAhead_37 : decode cX4_partsAhead 37 = .ok (.iaload, 1) := by decide +kernel
theorem dX4_partsAhead_38 : decode cX4_partsAhead 38 = .ok (.aload_n 0, 1) := by decide +kernel
theorem dX4_partsAhead_39 : decode cX4_partsAhead 39 = .ok (.getfield 15, 3) := by decide +kernel
theorem dX4_partsAhead_42 : decode cX4_partsAhead 42 = .ok (.iload_n 1, 1) := by decide +kernel
theorem dX4_partsAhead_43 : decode cX4_partsAhead 43 = .ok (.iaload, 1) := by decide +kernel
theorem dX4_partsAhead_44 : decode cX4_partsAhead 44 = .ok (.if_icmp .ne 12, 3) := by decide +kernel
theorem dX4_partsAhead_47 : decode cX4_partsAhead 47 = .ok (.iload_n 3, 1) := by decide +kernel
theorem dX4_partsAhead_48 : decode cX4_partsAhead 48 = .ok (.iload_n 1, 1) := by decide +kernel
theorem dX4_partsAhead_49 : decode cX4_partsAhead 49 = .ok (.if_icmp .ge 7, 3) := by decide +kernel
theorem dX4_partsAhead_52 : decode cX4_partsAhead 52 = .ok (.iconst 1, 1) := by decide +kernel
theorem dX4_partsAhead_53 : decode cX4_partsAhead 53 = .ok (.goto 4, 3) := by decide +kernel
theorem dX4_partsAhead_56 : decode cX4_partsAhead 56 = .ok (.iconst 0, 1) := by decide +kernel
theorem dX4_partsAhead_57 : decode cX4_partsAhead 57 = .ok (.istore 5, 2) := by decide +kernel
theorem dX4_partsAhead_59 : decode cX4_partsAhead 59 = .ok (.iload 4, 2) := by decide +kernel
theorem dX4_partsAhead_61 : decode cX4_partsAhead 61 = .ok (.ifCond .ne 8, 3) := by decide +kernel
theorem dX4_partsAhead_64 : decode cX4_partsAhead 64 = .ok (.iload 5, 2) := by decide +kernel
theorem dX4_partsAhead_66 : decode cX4_partsAhead 66 = .ok (.ifCond .eq 6, 3) := by decide +kernel
theorem dX4_partsAhead_69 : decode cX4_partsAhead 69 = .ok (.iinc 2 1, 3) := by decide +kernel
theorem dX4_partsAhead_72 : decode cX4_partsAhead 72 = .ok (.iinc 3 1, 3) := by decide +kernel
theorem dX4_partsAhead_75 : decode cX4_partsAhead 75 = .ok (.goto (-71), 3) := by decide +kernel
theorem dX4_partsAhead_78 : decode cX4_partsAhead 78 = .ok (.iload_n 2, 1) := by decide +kernel
theorem dX4_partsAhead_79 : decode cX4_partsAhead 79 = .ok (.ireturn, 1) := by decide +kernel
theorem dX4_giveOne_0 : decode cX4_giveOne 0 = .ok (.iconst (-1), 1) := by decide +kernel
theorem dX4_giveOne_1 : decode cX4_giveOne 1 = .ok (.istore_n 1, 1) := by decide +kernel
theorem dX4_giveOne_2 : decode cX4_giveOne 2 = .ok (.iconst 0, 1) := by decide +kernel
theorem dX4_giveOne_3 : decode cX4_giveOne 3 = .ok (.istore_n 2, 1) := by decide +kernel
theorem dX4_giveOne_4 : decode cX4_giveOne 4 = .ok (.iload_n 2, 1) := by decide +kernel
theorem dX4_giveOne_5 : decode cX4_giveOne 5 = .ok (.bipush 48, 2) := by decide +kernel
theorem dX4_giveOne_7 : decode cX4_giveOne 7 = .ok (.if_icmp .ge 39, 3) := by decide +kernel
theorem dX4_giveOne_10 : decode cX4_giveOne 10 = .ok (.aload_n 0, 1) := by decide +kernel
theorem dX4_giveOne_11 : decode cX4_giveOne 11 = .ok (.getfield 18, 3) := by decide +kernel
theorem dX4_giveOne_14 : decode cX4_giveOne 14 = .ok (.iload_n 2, 1) := by decide +kernel
theorem dX4_giveOne_15 : decode cX4_giveOne 15 = .ok (.baload, 1) := by decide +kernel
theorem dX4_giveOne_16 : decode cX4_giveOne 16 = .ok (.ifCond .ne 24, 3) := by decide +kernel
theorem dX4_giveOne_19 : decode cX4_giveOne 19 = .ok (.iload_n 1, 1) := by decide +kernel
theorem dX4_giveOne_20 : decode cX4_giveOne 20 = .ok (.ifCond .lt 18, 3) := by decide +kernel
theorem dX4_giveOne_23 : decode cX4_giveOne 23 = .ok (.aload_n 0, 1) := by decide +kernel
theorem dX4_giveOne_24 : decode cX4_giveOne 24 = .ok (.getfield 15, 3) := by decide +kernel
theorem dX4_giveOne_27 : decode cX4_giveOne 27 = .ok (.iload_n 2, 1) := by decide +kernel
theorem dX4_giveOne_28 : decode cX4_giveOne 28 = .ok (.iaload, 1) := by decide +kernel
theorem dX4_giveOne_29 : decode cX4_giveOne 29 = .ok (.aload_n 0, 1) := by decide +kernel
theorem dX4_giveOne_30 : decode cX4_giveOne 30 = .ok (.getfield 15, 3) := by decide +kernel
theorem dX4_giveOne_33 : decode cX4_giveOne 33 = .ok (.iload_n 1, 1) := by decide +kernel
theorem dX4_giveOne_34 : decode cX4_giveOne 34 = .ok (.iaload, 1) := by decide +kernel
theorem dX4_giveOne_35 : decode cX4_giveOne 35 = .ok (.if_icmp .le 5, 3) := by decide +kernel
theorem dX4_giveOne_38 : decode cX4_giveOne 38 = .ok (.iload_n 2, 1) := by decide +kernel
theorem dX4_giveOne_39 : decode cX4_giveOne 39 = .ok (.istore_n 1, 1) := by decide +kernel
theorem dX4_giveOne_40 : decode cX4_giveOne 40 = .ok (.iinc 2 1, 3) := by decide +kernel
theorem dX4_giveOne_43 : decode cX4_giveOne 43 = .ok (.goto (-39), 3) := by decide +kernel
theorem dX4_giveOne_46 : decode cX4_giveOne 46 = .ok (.iload_n 1, 1) := by decide +kernel
theorem dX4_giveOne_47 : decode cX4_giveOne 47 = .ok (.ifCond .lt 20, 3) := by decide +kernel
theorem dX4_giveOne_50 : decode cX4_giveOne 50 = .ok (.aload_n 0, 1) := by decide +kernel
theorem dX4_giveOne_51 : decode cX4_giveOne 51 = .ok (.getfield 18, 3) := by decide +kernel
theorem dX4_giveOne_54 : decode cX4_giveOne 54 = .ok (.iload_n 1, 1) := by decide +kernel
theorem dX4_giveOne_55 : decode cX4_giveOne 55 = .ok (.iconst 1, 1) := by decide +kernel
theorem dX4_giveOne_56 : decode cX4_giveOne 56 = .ok (.bastore, 1) := by decide +kernel
theorem dX4_giveOne_57 : decode cX4_giveOne 57 = .ok (.aload_n 0, 1) := by decide +kernel
theorem dX4_giveOne_58 : decode cX4_giveOne 58 = .ok (.getfield 9, 3) := by decide +kernel
theorem dX4_giveOne_61 : decode cX4_giveOne 61 = .ok (.iload_n 1, 1) := by decide +kernel
theorem dX4_giveOne_62 : decode cX4_giveOne 62 = .ok (.dup2, 1) := by decide +kernel
theorem dX4_giveOne_63 : decode cX4_giveOne 63 = .ok (.iaload, 1) := by decide +kernel
theorem dX4_giveOne_64 : decode cX4_giveOne 64 = .ok (.iconst 1, 1) := by decide +kernel
theorem dX4_giveOne_65 : decode cX4_giveOne 65 = .ok (.iadd, 1) := by decide +kernel
theorem dX4_giveOne_66 : decode cX4_giveOne 66 = .ok (.iastore, 1) := by decide +kernel
theorem dX4_giveOne_67 : decode cX4_giveOne 67 = .ok (.return_, 1) := by decide +kernel
theorem dX5_init_0 : decode cX5_init 0 = .ok (.aload_n 0, 1) := by decide +kernel
theorem dX5_init_1 : decode cX5_init 1 = .ok (.invokespecial 3, 3) := by decide +kernel
theorem dX5_init_4 : decode cX5_init 4 = .ok (.aload_n 0, 1) := by decide +kernel
theorem dX5_init_5 : decode cX5_init 5 = .ok (.bipush 80, 2) := by decide +kernel
theorem dX5_init_7 : decode cX5_init 7 = .ok (.newarray .char, 2) := by decide +kernel
theorem dX5_init_9 : decode cX5_init 9 = .ok (.putfield 9, 3) := by decide +kernel
theorem dX5_init_12 : decode cX5_init 12 = .ok (.aload_n 0, 1) := by decide +kernel
theorem dX5_init_13 : decode cX5_init 13 = .ok (.iconst 0, 1) := by decide +kernel
theorem dX5_init_14 : decode cX5_init 14 = .ok (.putfield 15, 3) := by decide +kernel
theorem dX5_init_17 : decode cX5_init 17 = .ok (.return_, 1) := by decide +kernel
theorem dX5_length_0 : decode cX5_length 0 = .ok (.aload_n 0, 1) := by decide +kernel
theorem dX5_length_1 : decode cX5_length 1 = .ok (.getfield 15, 3) := by decide +kernel
theorem dX5_length_4 : decode cX5_length 4 = .ok (.ireturn, 1) := by decide +kernel
set_option maxRecDepth 20000 in
theorem ggX5_isAt_X6_isBetween : GoodIn wsX5_isAt wsX6_isBetween := goodIn_r _ [5] (by decide +kernel) (by decide +kernel)
set_option maxRecDepth 20000 in
theorem gX5_isAt_X6_isBetween_n23 : GoodIn wsX5_isAt (wsX6_isBetween) := ggX5_isAt_X6_isBetween
theorem dX5_isAt_0 : decode cX5_isAt 0 = .ok (.iload_n 1, 1) := by decide +kernel
theorem dX5_isAt_1 : decode cX5_isAt 1 = .ok (.iconst 0, 1) := by decide +kernel
theorem dX5_isAt_2 : decode cX5_isAt 2 = .ok (.aload_n 0, 1) := by decide +kernel
theorem dX5_isAt_3 : decode cX5_isAt 3 = .ok (.getfield 15, 3) := by decide +kernel
theorem dX5_isAt_6 : decode cX5_isAt 6 = .ok (.iconst 1, 1) := by decide +kernel
theorem dX5_isAt_7 : decode cX5_isAt 7 = .ok (.isub, 1) := by decide +kernel
theorem dX5_isAt_8 : decode cX5_isAt 8 = .ok (.invokestatic 23, 3) := by decide +kernel
theorem dX5_isAt_11 : decode cX5_isAt 11 = .ok (.ifCond .eq 17, 3) := by decide +kernel
theorem dX5_isAt_14 : decode cX5_isAt 14 = .ok (.aload_n 0, 1) := by decide +kernel
theorem dX5_isAt_15 : decode cX5_isAt 15 = .ok (.getfield 9, 3) := by decide +kernel
theorem dX5_isAt_18 : decode cX5_isAt 18 = .ok (.iload_n 1, 1) := by decide +kernel
theorem dX5_isAt_19 : decode cX5_isAt 19 = .ok (.caload, 1) := by decide +kernel
theorem dX5_isAt_20 : decode cX5_isAt 20 = .ok (.iload_n 2, 1) := by decide +kernel
theorem dX5_isAt_21 : decode cX5_isAt 21 = .ok (.if_icmp .ne 7, 3) := by decide +kernel
theorem dX5_isAt_24 : decode cX5_isAt 24 = .ok (.iconst 1, 1) := by decide +kernel
theorem dX5_isAt_25 : decode cX5_isAt 25 = .ok (.goto 4, 3) := by decide +kernel
theorem dX5_isAt_28 : decode cX5_isAt 28 = .ok (.iconst 0, 1) := by decide +kernel
theorem dX5_isAt_29 : decode cX5_isAt 29 = .ok (.ireturn, 1) := by decide +kernel
set_option maxRecDepth 20000 in
theorem ggX5_digitAt_X6_isBetween : GoodIn wsX5_digitAt wsX6_isBetween := goodIn_r _ [5] (by decide +kernel) (by decide +kernel)
set_option maxRecDepth 20000 in
theorem gX5_digitAt_X6_isBetween_n23 : GoodIn wsX5_digitAt (wsX6_isBetween) := ggX5_digitAt_X6_isBetween
theorem dX5_digitAt_0 : decode cX5_digitAt 0 = .ok (.iload_n 1, 1) := by decide +kernel
theorem dX5_digitAt_1 : decode cX5_digitAt 1 = .ok (.iconst 0, 1) := by decide +kernel
theorem dX5_digitAt_2 : decode cX5_digitAt 2 = .ok (.aload_n 0, 1) := by decide +kernel
theorem dX5_digitAt_3 : decode cX5_digitAt 3 = .ok (.getfield 15, 3) := by decide +kernel
theorem dX5_digitAt_6 : decode cX5_digitAt 6 = .ok (.iconst 1, 1) := by decide +kernel
theorem dX5_digitAt_7 : decode cX5_digitAt 7 = .ok (.isub, 1) := by decide +kernel
theorem dX5_digitAt_8 : decode cX5_digitAt 8 = .ok (.invokestatic 23, 3) := by decide +kernel
theorem dX5_digitAt_11 : decode cX5_digitAt 11 = .ok (.ifCond .eq 19, 3) := by decide +kernel
theorem dX5_digitAt_14 : decode cX5_digitAt 14 = .ok (.aload_n 0, 1) := by decide +kernel
theorem dX5_digitAt_15 : decode cX5_digitAt 15 = .ok (.getfield 9, 3) := by decide +kernel
theorem dX5_digitAt_18 : decode cX5_digitAt 18 = .ok (.iload_n 1, 1) := by decide +kernel
theorem dX5_digitAt_19 : decode cX5_digitAt 19 = .ok (.caload, 1) := by decide +kernel
theorem dX5_digitAt_20 : decode cX5_digitAt 20 = .ok (.bipush 48, 2) := by decide +kernel
theorem dX5_digitAt_22 : decode cX5_digitAt 22 = .ok (.bipush 57, 2) := by decide +kernel
theorem dX5_digitAt_24 : decode cX5_digitAt 24 = .ok (.invokestatic 23, 3) := by decide +kernel
theorem dX5_digitAt_27 : decode cX5_digitAt 27 = .ok (.ifCond .ne 5, 3) := by decide +kernel
theorem dX5_digitAt_30 : decode cX5_digitAt 30 = .ok (.iconst (-1), 1) := by decide +kernel
theorem dX5_digitAt_31 : decode cX5_digitAt 31 = .ok (.ireturn, 1) := by decide +kernel
theorem dX5_digitAt_32 : decode cX5_digitAt 32 = .ok (.aload_n 0, 1) := by decide +kernel
theorem dX5_digitAt_33 : decode cX5_digitAt 33 = .ok (.getfield 9, 3) := by decide +kernel
theorem dX5_digitAt_36 : decode cX5_digitAt 36 = .ok (.iload_n 1, 1) := by decide +kernel
theorem dX5_digitAt_37 : decode cX5_digitAt 37 = .ok (.caload, 1) := by decide +kernel
theorem dX5_digitAt_38 : decode cX5_digitAt 38 = .ok (.bipush 48, 2) := by decide +kernel
theorem dX5_digitAt_40 : decode cX5_digitAt 40 = .ok (.isub, 1) := by decide +kernel
theorem dX5_digitAt_41 : decode cX5_digitAt 41 = .ok (.ireturn, 1) := by decide +kernel
theorem dJ9_floorMod_7cf53_0 : decode cJ9_floorMod_7cf53 0 = .ok (.iload_n 0, 1) := by decide +kernel
theorem dJ9_floorMod_7cf53_1 : decode cJ9_floorMod_7cf53 1 = .ok (.iload_n 1, 1) := by decide +kernel
theorem dJ9_floorMod_7cf53_2 : decode cJ9_floorMod_7cf53 2 = .ok (.irem, 1) := by decide +kernel
theorem dJ9_floorMod_7cf53_3 : decode cJ9_floorMod_7cf53 3 = .ok (.istore_n 2, 1) := by decide +kernel
theorem dJ9_floorMod_7cf53_4 : decode cJ9_floorMod_7cf53 4 = .ok (.iload_n 0, 1) := by decide +kernel
theorem dJ9_floorMod_7cf53_5 : decode cJ9_floorMod_7cf53 5 = .ok (.iload_n 1, 1) := by decide +kernel
theorem dJ9_floorMod_7cf53_6 : decode cJ9_floorMod_7cf53 6 = .ok (.ixor, 1) := by decide +kernel
theorem dJ9_floorMod_7cf53_7 : decode cJ9_floorMod_7cf53 7 = .ok (.ifCond .ge 11, 3) := by decide +kernel
theorem dJ9_floorMod_7cf53_10 : decode cJ9_floorMod_7cf53 10 = .ok (.iload_n 2, 1) := by decide +kernel
theorem dJ9_floorMod_7cf53_11 : decode cJ9_floorMod_7cf53 11 = .ok (.ifCond .eq 7, 3) := by decide +kernel
theorem dJ9_floorMod_7cf53_14 : decode cJ9_floorMod_7cf53 14 = .ok (.iload_n 2, 1) := by decide +kernel
theorem dJ9_floorMod_7cf53_15 : decode cJ9_floorMod_7cf53 15 = .ok (.iload_n 1, 1) := by decide +kernel
theorem dJ9_floorMod_7cf53_16 : decode cJ9_floorMod_7cf53 16 = .ok (.iadd, 1) := by decide +kernel
theorem dJ9_floorMod_7cf53_17 : decode cJ9_floorMod_7cf53 17 = .ok (.ireturn, 1) := by decide +kernel
theorem dJ9_floorMod_7cf53_18 : decode cJ9_floorMod_7cf53 18 = .ok (.iload_n 2, 1) := by decide +kernel
theorem dJ9_floorMod_7cf53_19 : decode cJ9_floorMod_7cf53 19 = .ok (.ireturn, 1) := by decide +kernel
theorem dJ9_abs_0f7a4_0 : decode cJ9_abs_0f7a4 0 = .ok (.iload_n 0, 1) := by decide +kernel
theorem dJ9_abs_0f7a4_1 : decode cJ9_abs_0f7a4 1 = .ok (.ifCond .ge 8, 3) := by decide +kernel
theorem dJ9_abs_0f7a4_4 : decode cJ9_abs_0f7a4 4 = .ok (.iload_n 0, 1) := by decide +kernel
theorem dJ9_abs_0f7a4_5 : decode cJ9_abs_0f7a4 5 = .ok (.ineg, 1) := by decide +kernel
theorem dJ9_abs_0f7a4_6 : decode cJ9_abs_0f7a4 6 = .ok (.goto 4, 3) := by decide +kernel
theorem dJ9_abs_0f7a4_9 : decode cJ9_abs_0f7a4 9 = .ok (.iload_n 0, 1) := by decide +kernel
theorem dJ9_abs_0f7a4_10 : decode cJ9_abs_0f7a4 10 = .ok (.ireturn, 1) := by decide +kernel
theorem dJ9_max_7cf53_0 : decode cJ9_max_7cf53 0 = .ok (.iload_n 0, 1) := by decide +kernel
theorem dJ9_max_7cf53_1 : decode cJ9_max_7cf53 1 = .ok (.iload_n 1, 1) := by decide +kernel
theorem dJ9_max_7cf53_2 : decode cJ9_max_7cf53 2 = .ok (.if_icmp .lt 7, 3) := by decide +kernel
theorem dJ9_max_7cf53_5 : decode cJ9_max_7cf53 5 = .ok (.iload_n 0, 1) := by decide +kernel
theorem dJ9_max_7cf53_6 : decode cJ9_max_7cf53 6 = .ok (.goto 4, 3) := by decide +kernel
theorem dJ9_max_7cf53_9 : decode cJ9_max_7cf53 9 = .ok (.iload_n 1, 1) := by decide +kernel
theorem dJ9_max_7cf53_10 : decode cJ9_max_7cf53 10 = .ok (.ireturn, 1) := by decide +kernel
