set_option maxRecDepth 20000 in
theorem gX5_isHourOfDay_X5_isWithin : GoodIn wsX5_isHourOfDay (va_wsS RX5 40 yX5_isWithin wsX5_isWithin) := goodIn_app (goodIn_of _ (by decide +kernel)) ggX5_isHourOfDay_X5_isWithin
theorem dX5_isHourOfDay_0 : decode cX5_isHourOfDay 0 = .ok (.iload_n 0, 1) := by decide +kernel
theorem dX5_isHourOfDay_1 : decode cX5_isHourOfDay 1 = .ok (.iconst 0, 1) := by decide +kernel
theorem dX5_isHourOfDay_2 : decode cX5_isHourOfDay 2 = .ok (.bipush 11, 2) := by decide +kernel
theorem dX5_isHourOfDay_4 : decode cX5_isHourOfDay 4 = .ok (.invokestatic 40, 3) := by decide +kernel
theorem dX5_isHourOfDay_7 : decode cX5_isHourOfDay 7 = .ok (.ireturn, 1) := by decide +kernel
set_option maxRecDepth 20000 in
theorem ggX5_isHeardLoud_X5_isWithin : GoodIn wsX5_isHeardLoud wsX5_isWithin := goodIn_r _ [4] (by decide +kernel) (by decide +kernel)
set_option maxRecDepth 20000 in
theorem gX5_isHeardLoud_X5_isWithin : GoodIn wsX5_isHeardLoud (va_wsS RX5 40 yX5_isWithin wsX5_isWithin) := goodIn_app (goodIn_of _ (by decide +kernel)) ggX5_isHeardLoud_X5_isWithin
theorem dX5_isHeardLoud_0 : decode cX5_isHeardLoud 0 = .ok (.iload_n 0, 1) := by decide +kernel
theorem dX5_isHeardLoud_1 : decode cX5_isHeardLoud 1 = .ok (.iconst 1, 1) := by decide +kernel
theorem dX5_isHeardLoud_2 : decode cX5_isHeardLoud 2 = .ok (.bipush 9, 2) := by decide +kernel
theorem dX5_isHeardLoud_4 : decode cX5_isHeardLoud 4 = .ok (.invokestatic 40, 3) := by decide +kernel
theorem dX5_isHeardLoud_7 : decode cX5_isHeardLoud 7 = .ok (.ireturn, 1) := by decide +kernel
theorem dX5_hasColony_0 : decode cX5_hasColony 0 = .ok (.aload_n 0, 1) := by decide +kernel
theorem dX5_hasColony_1 : decode cX5_hasColony 1 = .ok (.getfield 65, 3) := by decide +kernel
theorem dX5_hasColony_4 : decode cX5_hasColony 4 = .ok (.ifCond .le 7, 3) := by decide +kernel
theorem dX5_hasColony_7 : decode cX5_hasColony 7 = .ok (.iconst 1, 1) := by decide +kernel
theorem dX5_hasColony_8 : decode cX5_hasColony 8 = .ok (.goto 4, 3) := by decide +kernel
theorem dX5_hasColony_11 : decode cX5_hasColony 11 = .ok (.iconst 0, 1) := by decide +kernel
theorem dX5_hasColony_12 : decode cX5_hasColony 12 = .ok (.ireturn, 1) := by decide +kernel
set_option maxRecDepth 20000 in
theorem ggX5_isHouse_X5_isWithin : GoodIn wsX5_isHouse wsX5_isWithin := goodIn_r _ [5] (by decide +kernel) (by decide +kernel)
set_option maxRecDepth 20000 in
theorem gX5_isHouse_X5_isWithin : GoodIn wsX5_isHouse (va_wsS RX5 40 yX5_isWithin wsX5_isWithin) := goodIn_app (goodIn_of _ (by decide +kernel)) ggX5_isHouse_X5_isWithin
theorem dX5_isHouse_0 : decode cX5_isHouse 0 = .ok (.iload_n 1, 1) := by decide +kernel
theorem dX5_isHouse_1 : decode cX5_isHouse 1 = .ok (.iconst 0, 1) := by decide +kernel
theorem dX5_isHouse_2 : decode cX5_isHouse 2 = .ok (.aload_n 0, 1) := by decide +kernel
theorem dX5_isHouse_3 : decode cX5_isHouse 3 = .ok (.getfield 65, 3) := by decide +kernel
theorem dX5_isHouse_6 : decode cX5_isHouse 6 = .ok (.iconst 1, 1) := by decide +kernel
theorem dX5_isHouse_7 : decode cX5_isHouse 7 = .ok (.isub, 1) := by decide +kernel
theorem dX5_isHouse_8 : decode cX5_isHouse 8 = .ok (.invokestatic 40, 3) := by decide +kernel
theorem dX5_isHouse_11 : decode cX5_isHouse 11 = .ok (.ireturn, 1) := by decide +kernel
theorem dX5_allHouses_0 : decode cX5_allHouses 0 = .ok (.iconst 1, 1) := by decide +kernel
theorem dX5_allHouses_1 : decode cX5_allHouses 1 = .ok (.aload_n 0, 1) := by decide +kernel
theorem dX5_allHouses_2 : decode cX5_allHouses 2 = .ok (.getfield 65, 3) := by decide +kernel
theorem dX5_allHouses_5 : decode cX5_allHouses 5 = .ok (.ishl, 1) := by decide +kernel
theorem dX5_allHouses_6 : decode cX5_allHouses 6 = .ok (.iconst 1, 1) := by decide +kernel
theorem dX5_allHouses_7 : decode cX5_allHouses 7 = .ok (.isub, 1) := by decide +kernel
theorem dX5_allHouses_8 : decode cX5_allHouses 8 = .ok (.ireturn, 1) := by decide +kernel
set_option maxRecDepth 20000 in
theorem ggX5_kindAt_X5_isWithin : GoodIn wsX5_kindAt wsX5_isWithin := goodIn_r _ [5] (by decide +kernel) (by decide +kernel)
set_option maxRecDepth 20000 in
theorem gX5_kindAt_X5_isWithin : GoodIn wsX5_kindAt (va_wsS RX5 40 yX5_isWithin wsX5_isWithin) := goodIn_app (goodIn_of _ (by decide +kernel)) ggX5_kindAt_X5_isWithin
theorem dX5_kindAt_0 : decode cX5_kindAt 0 = .ok (.iload_n 1, 1) := by decide +kernel
theorem dX5_kindAt_1 : decode cX5_kindAt 1 = .ok (.iconst 0, 1) := by decide +kernel
theorem dX5_kindAt_2 : decode cX5_kindAt 2 = .ok (.iconst 4, 1) := by decide +kernel
theorem dX5_kindAt_3 : decode cX5_kindAt 3 = .ok (.invokestatic 40, 3) := by decide +kernel
theorem dX5_kindAt_6 : decode cX5_kindAt 6 = .ok (.ifCond .eq 12, 3) := by decide +kernel
theorem dX5_kindAt_9 : decode cX5_kindAt 9 = .ok (.aload_n 0, 1) := by decide +kernel
theorem dX5_kindAt_10 : decode cX5_kindAt 10 = .ok (.getfield 16, 3) := by decide +kernel
theorem dX5_kindAt_13 : decode cX5_kindAt 13 = .ok (.iload_n 1, 1) := by decide +kernel
theorem dX5_kindAt_14 : decode cX5_kindAt 14 = .ok (.iaload, 1) := by decide +kernel
theorem dX5_kindAt_15 : decode cX5_kindAt 15 = .ok (.goto 4, 3) := by decide +kernel
theorem dX5_kindAt_18 : decode cX5_kindAt 18 = .ok (.iconst 0, 1) := by decide +kernel
theorem dX5_kindAt_19 : decode cX5_kindAt 19 = .ok (.ireturn, 1) := by decide +kernel
theorem dX5_kindOf_0 : decode cX5_kindOf 0 = .ok (.iload_n 0, 1) := by decide +kernel
theorem dX5_kindOf_1 : decode cX5_kindOf 1 = .ok (.tableswitch 77 99 111 #[75, 73, 77, 77, 77, 67, 77, 77, 77, 69, 77, 77, 71], 67) := by decide +kernel
theorem dX5_kindOf_68 : decode cX5_kindOf 68 = .ok (.iconst 0, 1) := by decide +kernel
theorem dX5_kindOf_69 : decode cX5_kindOf 69 = .ok (.ireturn, 1) := by decide +kernel
theorem dX5_kindOf_70 : decode cX5_kindOf 70 = .ok (.iconst 1, 1) := by decide +kernel
theorem dX5_kindOf_71 : decode cX5_kindOf 71 = .ok (.ireturn, 1) := by decide +kernel
theorem dX5_kindOf_72 : decode cX5_kindOf 72 = .ok (.iconst 2, 1) := by decide +kernel
theorem dX5_kindOf_73 : decode cX5_kindOf 73 = .ok (.ireturn, 1) := by decide +kernel
theorem dX5_kindOf_74 : decode cX5_kindOf 74 = .ok (.iconst 3, 1) := by decide +kernel
theorem dX5_kindOf_75 : decode cX5_kindOf 75 = .ok (.ireturn, 1) := by decide +kernel
theorem dX5_kindOf_76 : decode cX5_kindOf 76 = .ok (.iconst 4, 1) := by decide +kernel
theorem dX5_kindOf_77 : decode cX5_kindOf 77 = .ok (.ireturn, 1) := by decide +kernel
theorem dX5_kindOf_78 : decode cX5_kindOf 78 = .ok (.iconst (-1), 1) := by decide +kernel
theorem dX5_kindOf_79 : decode cX5_kindOf 79 = .ok (.ireturn, 1) := by decide +kernel
set_option maxRecDepth 20000 in
theorem ggX5_tideNow_X4_clear : GoodIn wsX5_tideNow wsX4_clear := goodIn_r _ [8, 9, 54] (by decide +kernel) (by decide +kernel)
set_option maxRecDepth 20000 in
theorem gX5_tideNow_X4_clear : GoodIn wsX5_tideNow (wsV RX5 241 RX4 yX4_clear wsX4_clear) := goodIn_app (goodIn_of _ (by decide +kernel)) ggX5_tideNow_X4_clear
set_option maxRecDepth 20000 in
theorem ggX5_tideNow_X3_size : GoodIn wsX5_tideNow wsX3_size := goodIn_r _ [14, 15, 55, 56, 57] (by decide +kernel) (by decide +kernel)
set_option maxRecDepth 20000 in
theorem gX5_tideNow_X3_size : GoodIn wsX5_tideNow (wsV RX5 141 RX3 yX3_size wsX3_size) := goodIn_app (goodIn_of _ (by decide +kernel)) ggX5_tideNow_X3_size
set_option maxRecDepth 20000 in
theorem ggX5_tideNow_X3_hour : GoodIn wsX5_tideNow wsX3_hour := goodIn_r _ [19, 20, 21, 22, 23, 13, 24, 15, 25, 26, 27, 55, 56, 57] (by decide +kernel) (by decide +kernel)
set_option maxRecDepth 20000 in
theorem gX5_tideNow_X3_hour : GoodIn wsX5_tideNow (wsV RX5 151 RX3 yX3_hour wsX3_hour) := goodIn_app (goodIn_of _ (by decide +kernel)) ggX5_tideNow_X3_hour
set_option maxRecDepth 20000 in
theorem ggX5_tideNow_X3_loud : GoodIn wsX5_tideNow wsX3_loud := goodIn_r _ [31, 32, 21, 22, 23, 13, 24, 15, 25, 26, 27, 55, 56, 57] (by decide +kernel) (by decide +kernel)
set_option maxRecDepth 20000 in
theorem gX5_tideNow_X3_loud : GoodIn wsX5_tideNow (wsV RX5 145 RX3 yX3_loud wsX3_loud) := goodIn_app (goodIn_of _ (by decide +kernel)) ggX5_tideNow_X3_loud
set_option maxRecDepth 20000 in
theorem ggX5_tideNow_X4_add : GoodIn wsX5_tideNow wsX4_add := goodIn_r _ [36, 37, 38, 39, 40, 9, 54] (by decide +kernel) (by decide +kernel)
set_option maxRecDepth 20000 in
theorem gX5_tideNow_X4_add : GoodIn wsX5_tideNow (wsV RX5 242 RX4 yX4_add wsX4_add) := goodIn_app (goodIn_of _ (by decide +kernel)) ggX5_tideNow_X4_add
theorem dX5_tideNow_0 : decode cX5_tideNow 0 = .ok (.aload_n 0, 1) := by decide +kernel
theorem dX5_tideNow_1 : decode cX5_tideNow 1 = .ok (.getfield 33, 3) := by decide +kernel
theorem dX5_tideNow_4 : decode cX5_tideNow 4 = .ok (.invokevirtual 241, 3) := by decide +kernel
theorem dX5_tideNow_7 : decode cX5_tideNow 7 = .ok (.aload_n 0, 1) := by decide +kernel
theorem dX5_tideNow_8 : decode cX5_tideNow 8 = .ok (.getfield 23, 3) := by decide +kernel
theorem dX5_tideNow_11 : decode cX5_tideNow 11 = .ok (.getfield 86, 3) := by decide +kernel
theorem dX5_tideNow_14 : decode cX5_tideNow 14 = .ok (.astore_n 1, 1) := by decide +kernel
theorem dX5_tideNow_15 : decode cX5_tideNow 15 = .ok (.iconst 0, 1) := by decide +kernel
theorem dX5_tideNow_16 : decode cX5_tideNow 16 = .ok (.istore_n 2, 1) := by decide +kernel
theorem dX5_tideNow_17 : decode cX5_tideNow 17 = .ok (.iload_n 2, 1) := by decide +kernel
theorem dX5_tideNow_18 : decode cX5_tideNow 18 = .ok (.aload_n 1, 1) := by decide +kernel
theorem dX5_tideNow_19 : decode cX5_tideNow 19 = .ok (.invokevirtual 141, 3) := by decide +kernel
theorem dX5_tideNow_22 : decode cX5_tideNow 22 = .ok (.if_icmp .ge 26, 3) := by decide +kernel
theorem dX5_tideNow_25 : decode cX5_tideNow 25 = .ok (.aload_n 0, 1) := by decide +kernel
theorem dX5_tideNow_26 : decode cX5_tideNow 26 = .ok (.getfield 33, 3) := by decide +kernel
theorem dX5_tideNow_29 : decode cX5_tideNow 29 = .ok (.aload_n 1, 1) := by decide +kernel
theorem dX5_tideNow_30 : decode cX5_tideNow 30 = .ok (.iload_n 2, 1) := by decide +kernel
theorem dX5_tideNow_31 : decode cX5_tideNow 31 = .ok (.invokevirtual 151, 3) := by decide +kernel
theorem dX5_tideNow_34 : decode cX5_tideNow 34 = .ok (.aload_n 1, 1) := by decide +kernel
theorem dX5_tideNow_35 : decode cX5_tideNow 35 = .ok (.iload_n 2, 1) := by decide +kernel
theorem dX5_tideNow_36 : decode cX5_tideNow 36 = .ok (.invokevirtual 145, 3) := by decide +kernel
theorem dX5_tideNow_39 : decode cX5_tideNow 39 = .ok (.invokevirtual 242, 3) := by decide +kernel
theorem dX5_tideNow_42 : decode cX5_tideNow 42 = .ok (.iinc 2 1, 3) := by decide +kernel
theorem dX5_tideNow_45 : decode cX5_tideNow 45 = .ok (.goto (-28), 3) := by decide +kernel
theorem dX5_tideNow_48 : decode cX5_tideNow 48 = .ok (.aload_n 0, 1) := by decide +kernel
theorem dX5_tideNow_49 : decode cX5_tideNow 49 = .ok (.getfield 33, 3) := by decide +kernel
theorem dX5_tideNow_52 : decode cX5_tideNow 52 = .ok (.areturn, 1) := by decide +kernel
set_option maxRecDepth 20000 in
theorem ggX5_suppose_X4_copyFrom : GoodIn wsX5_suppose wsX4_copyFrom := goodIn_r _ [6, 7, 25] (by decide +kernel) (by decide +kernel)
set_option maxRecDepth 20000 in
theorem gX5_suppose_X4_copyFrom : GoodIn wsX5_suppose (wsV RX5 244 RX4 yX4_copyFrom wsX4_copyFrom) := goodIn_app (goodIn_of _ (by decide +kernel)) ggX5_suppose_X4_copyFrom
set_option maxRecDepth 20000 in
theorem ggX5_suppose_X4_add : GoodIn wsX5_suppose wsX4_add := goodIn_r _ [11, 12, 13, 14, 15, 7, 25] (by decide +kernel) (by decide +kernel)
set_option maxRecDepth 20000 in
theorem gX5_suppose_X4_add : GoodIn wsX5_suppose (wsV RX5 242 RX4 yX4_add wsX4_add) := goodIn_app (goodIn_of _ (by decide +kernel)) ggX5_suppose_X4_add
theorem dX5_suppose_0 : decode cX5_suppose 0 = .ok (.aload_n 0, 1) := by decide +kernel
theorem dX5_suppose_1 : decode cX5_suppose 1 = .ok (.getfield 37, 3) := by decide +kernel
theorem dX5_suppose_4 : decode cX5_suppose 4 = .ok (.aload_n 1, 1) := by decide +kernel
theorem dX5_suppose_5 : decode cX5_suppose 5 = .ok (.invokevirtual 244, 3) := by decide +kernel
theorem dX5_suppose_8 : decode cX5_suppose 8 = .ok (.aload_n 0, 1) := by decide +kernel
theorem dX5_suppose_9 : decode cX5_suppose 9 = .ok (.getfield 37, 3) := by decide +kernel
theorem dX5_suppose_12 : decode cX5_suppose 12 = .ok (.iload_n 2, 1) := by decide +kernel
theorem dX5_suppose_13 : decode cX5_suppose 13 = .ok (.iload_n 3, 1) := by decide +kernel
theorem dX5_suppose_14 : decode cX5_suppose 14 = .ok (.invokevirtual 242, 3) := by decide +kernel
theorem dX5_suppose_17 : decode cX5_suppose 17 = .ok (.aload_n 0, 1) := by decide +kernel
theorem dX5_suppose_18 : decode cX5_suppose 18 = .ok (.getfield 37, 3) := by decide +kernel
theorem dX5_suppose_21 : decode cX5_suppose 21 = .ok (.areturn, 1) := by decide +kernel
set_option maxRecDepth 20000 in
theorem ggX5_drawDay_X4_clear : GoodIn wsX5_drawDay wsX4_clear := goodIn_r _ [12, 13, 53] (by decide +kernel) (by decide +kernel)
set_option maxRecDepth 20000 in
theorem gX5_drawDay_X4_clear : GoodIn wsX5_drawDay (wsV RX5 241 RX4 yX4_clear wsX4_clear) := goodIn_app (goodIn_of _ (by decide +kernel)) ggX5_drawDay_X4_clear
set_option maxRecDepth 20000 in
theorem ggX5_drawDay_X3_size : GoodIn wsX5_drawDay wsX3_size := goodIn_r _ [18, 19, 54, 55, 56] (by decide +kernel) (by decide +kernel)
set_option maxRecDepth 20000 in
theorem gX5_drawDay_X3_size : GoodIn wsX5_drawDay (wsV RX5 141 RX3 yX3_size wsX3_size) := goodIn_app (goodIn_of _ (by decide +kernel)) ggX5_drawDay_X3_size
set_option maxRecDepth 20000 in
theorem ggX5_drawDay_X3_loud : GoodIn wsX5_drawDay wsX3_loud := goodIn_r _ [23, 24, 25, 26, 27, 17, 28, 19, 29, 30, 31, 54, 55, 56] (by decide +kernel) (by decide +kernel)
set_option maxRecDepth 20000 in
theorem gX5_drawDay_X3_loud : GoodIn wsX5_drawDay (wsV RX5 145 RX3 yX3_loud wsX3_loud) := goodIn_app (goodIn_of _ (by decide +kernel)) ggX5_drawDay_X3_loud
set_option maxRecDepth 20000 in
theorem ggX5_drawDay_X4_add : GoodIn wsX5_drawDay wsX4_add := goodIn_r _ [35, 36, 37, 38, 39, 13, 53] (by decide +kernel) (by decide +kernel)
set_option maxRecDepth 20000 in
theorem gX5_drawDay_X4_add : GoodIn wsX5_drawDay (wsV RX5 242 RX4 yX4_add wsX4_add) := goodIn_app (goodIn_of _ (by decide +kernel)) ggX5_drawDay_X4_add
theorem dX5_drawDay_0 : decode cX5_drawDay 0 = .ok (.iload_n 1, 1) := by decide +kernel
theorem dX5_drawDay_1 : decode cX5_drawDay 1 = .ok (.istore_n 2, 1) := by decide +kernel
theorem dX5_drawDay_2 : decode cX5_drawDay 2 = .ok (.aload_n 0, 1) := by decide +kernel
theorem dX5_drawDay_3 : decode cX5_drawDay 3 = .ok (.getfield 23, 3) := by decide +kernel
theorem dX5_drawDay_6 : decode cX5_drawDay 6 = .ok (.getfield 86, 3) := by decide +kernel
theorem dX5_drawDay_9 : decode cX5_drawDay 9 = .ok (.astore_n 3, 1) := by decide +kernel
theorem dX5_drawDay_10 : decode cX5_drawDay 10 = .ok (.aload_n 0, 1) := by decide +kernel
theorem dX5_drawDay_11 : decode cX5_drawDay 11 = .ok (.getfield 37, 3) := by decide +kernel
theorem dX5_drawDay_14 : decode cX5_drawDay 14 = .ok (.invokevirtual 241, 3) := by decide +kernel
theorem dX5_drawDay_17 : decode cX5_drawDay 17 = .ok (.iconst 0, 1) := by decide +kernel
theorem dX5_drawDay_18 : decode cX5_drawDay 18 = .ok (.istore 4, 2) := by decide +kernel
theorem dX5_drawDay_20 : decode cX5_drawDay 20 = .ok (.iload 4, 2) := by decide +kernel
theorem dX5_drawDay_22 : decode cX5_drawDay 22 = .ok (.aload_n 3, 1) := by decide +kernel
theorem dX5_drawDay_23 : decode cX5_drawDay 23 = .ok (.invokevirtual 141, 3) := by decide +kernel
theorem dX5_drawDay_26 : decode cX5_drawDay 26 = .ok (.if_icmp .ge 45, 3) := by decide +kernel
theorem dX5_drawDay_29 : decode cX5_drawDay 29 = .ok (.ldc2_w 247, 3) := by decide +kernel
theorem dX5_drawDay_32 : decode cX5_drawDay 32 = .ok (.iload_n 2, 1) := by decide +kernel
theorem dX5_drawDay_33 : decode cX5_drawDay 33 = .ok (.i2l, 1) := by decide +kernel
theorem dX5_drawDay_34 : decode cX5_drawDay 34 = .ok (.lmul, 1) := by decide +kernel
theorem dX5_drawDay_35 : decode cX5_drawDay 35 = .ok (.ldc2_w 249, 3) := by decide +kernel
theorem dX5_drawDay_38 : decode cX5_drawDay 38 = .ok (.ladd, 1) := by decide +kernel
theorem dX5_drawDay_39 : decode cX5_drawDay 39 = .ok (.ldc2_w 251, 3) := by decide +kernel
theorem dX5_drawDay_42 : decode cX5_drawDay 42 = .ok (.lrem, 1) := by decide +kernel
theorem dX5_drawDay_43 : decode cX5_drawDay 43 = .ok (.l2i, 1) := by decide +kernel
theorem dX5_drawDay_44 : decode cX5_drawDay 44 = .ok (.istore_n 2, 1) := by decide +kernel
theorem dX5_drawDay_45 : decode cX5_drawDay 45 = .ok (.aload_n 0, 1) := by decide +kernel
theorem dX5_drawDay_46 : decode cX5_drawDay 46 = .ok (.getfield 37, 3) := by decide +kernel
theorem dX5_drawDay_49 : decode cX5_drawDay 49 = .ok (.iload_n 2, 1) := by decide +kernel
theorem dX5_drawDay_50 : decode cX5_drawDay 50 = .ok (.ldc 253, 2) := by decide +kernel
theorem dX5_drawDay_52 : decode cX5_drawDay 52 = .ok (.idiv, 1) := by decide +kernel
theorem dX5_drawDay_53 : decode cX5_drawDay 53 = .ok (.bipush 10, 2) := by decide +kernel
theorem dX5_drawDay_55 : decode cX5_drawDay 55 = .ok (.irem, 1) := by decide +kernel
theorem dX5_drawDay_56 : decode cX5_drawDay 56 = .ok (.aload_n 3, 1) := by decide +kernel
theorem dX5_drawDay_57 : decode cX5_drawDay 57 = .ok (.iload 4, 2) := by decide +kernel
theorem dX5_drawDay_59 : decode cX5_drawDay 59 = .ok (.invokevirtual 145, 3) := by decide +kernel
theorem dX5_drawDay_62 : decode cX5_drawDay 62 = .ok (.invokevirtual 242, 3) := by decide +kernel
theorem dX5_drawDay_65 : decode cX5_drawDay 65 = .ok (.iinc 4 1, 3) := by decide +kernel
theorem dX5_drawDay_68 : decode cX5_drawDay 68 = .ok (.goto (-48), 3) := by decide +kernel
theorem dX5_drawDay_71 : decode cX5_drawDay 71 = .ok (.iload_n 2, 1) := by decide +kernel
theorem dX5_drawDay_72 : decode cX5_drawDay 72 = .ok (.ireturn, 1) := by decide +kernel
set_option maxRecDepth 20000 in
theorem ggX5_mannersAt_X0_level : GoodIn wsX5_mannersAt wsX0_level := goodIn_r _ [13, 14, 15, 16, 17, 43, 44, 45, 46] (by decide +kernel) (by decide +kernel)
set_option maxRecDepth 20000 in
theorem gX5_mannersAt_X0_level : GoodIn wsX5_mannersAt (wsV RX5 113 RX0 yX0_level wsX0_level) := goodIn_app (goodIn_of _ (by decide +kernel)) ggX5_mannersAt_X0_level
set_option maxRecDepth 20000 in
theorem ggX5_mannersAt_X5_kindAt : GoodIn wsX5_mannersAt wsX5_kindAt := goodIn_r _ [21, 22, 23, 15, 16, 17, 34, 35, 36, 37, 38, 39, 40, 41, 42] (by decide +kernel) (by decide +kernel)
set_option maxRecDepth 20000 in
theorem gX5_mannersAt_X5_kindAt : GoodIn wsX5_mannersAt (wsV RX5 110 RX5 yX5_kindAt wsX5_kindAt) := goodIn_app (goodIn_of _ (by decide +kernel)) ggX5_mannersAt_X5_kindAt
set_option maxRecDepth 20000 in
theorem ggX5_mannersAt_X4_at : GoodIn wsX5_mannersAt wsX4_at := goodIn_r _ [28, 29, 30, 7, 4, 8, 47] (by decide +kernel) (by decide +kernel)
set_option maxRecDepth 20000 in
theorem gX5_mannersAt_X4_at : GoodIn wsX5_mannersAt (wsV RX5 137 RX4 yX4_at wsX4_at) := goodIn_app (goodIn_of _ (by decide +kernel)) ggX5_mannersAt_X4_at
set_option maxRecDepth 20000 in
theorem ggX5_mannersAt_X5_above : GoodIn wsX5_mannersAt wsX5_above := goodIn_r _ [33, 2, 3, 4, 5] (by decide +kernel) (by decide +kernel)
set_option maxRecDepth 20000 in
theorem gX5_mannersAt_X5_above : GoodIn wsX5_mannersAt (va_wsS RX5 259 yX5_above wsX5_above) := goodIn_app (goodIn_of _ (by decide +kernel)) ggX5_mannersAt_X5_above
theorem dX5_mannersAt_0 : decode cX5_mannersAt 0 = .ok (.aload_n 0, 1) := by decide +kernel
theorem dX5_mannersAt_1 : decode cX5_mannersAt 1 = .ok (.getfield 23, 3) := by decide +kernel
theorem dX5_mannersAt_4 : decode cX5_mannersAt 4 = .ok (.iload_n 1, 1) := by decide +kernel
theorem dX5_mannersAt_5 : decode cX5_mannersAt 5 = .ok (.invokevirtual 113, 3) := by decide +kernel
theorem dX5_mannersAt_8 : decode cX5_mannersAt 8 = .ok (.istore 4, 2) := by decide +kernel
theorem dX5_mannersAt_10 : decode cX5_mannersAt 10 = .ok (.iconst 0, 1) := by decide +kernel
theorem dX5_mannersAt_11 : decode cX5_mannersAt 11 = .ok (.iload 4, 2) := by decide +kernel
theorem dX5_mannersAt_13 : decode cX5_mannersAt 13 = .ok (.iconst 3, 1) := by decide +kernel
theorem dX5_mannersAt_14 : decode cX5_mannersAt 14 = .ok (.isub, 1) := by decide +kernel
theorem dX5_mannersAt_15 : decode cX5_mannersAt 15 = .ok (.invokestatic 254, 3) := by decide +kernel
theorem dX5_mannersAt_18 : decode cX5_mannersAt 18 = .ok (.istore 5, 2) := by decide +kernel
theorem dX5_mannersAt_20 : decode cX5_mannersAt 20 = .ok (.aload_n 0, 1) := by decide +kernel
theorem dX5_mannersAt_21 : decode cX5_mannersAt 21 = .ok (.iload_n 1, 1) := by decide +kernel
theorem dX5_mannersAt_22 : decode cX5_mannersAt 22 = .ok (.invokevirtual 110, 3) := by decide +kernel
theorem dX5_mannersAt_25 : decode cX5_mannersAt 25 = .ok (.tableswitch 88 1 4 #[31, 55, 76, 42], 31) := by decide +kernel
theorem dX5_mannersAt_56 : decode cX5_mannersAt 56 = .ok (.iload 5, 2) := by decide +kernel
theorem dX5_mannersAt_58 : decode cX5_mannersAt 58 = .ok (.aload_n 2, 1) := by decide +kernel
theorem dX5_mannersAt_59 : decode cX5_mannersAt 59 = .ok (.iload_n 3, 1) := by decide +kernel
theorem dX5_mannersAt_60 : decode cX5_mannersAt 60 = .ok (.invokevirtual 137, 3) := by decide +kernel
theorem dX5_mannersAt_63 : decode cX5_mannersAt 63 = .ok (.invokestatic 259, 3) := by decide +kernel
theorem dX5_mannersAt_66 : decode cX5_mannersAt 66 = .ok (.ireturn, 1) := by decide +kernel
theorem dX5_mannersAt_67 : decode cX5_mannersAt 67 = .ok (.iload 5, 2) := by decide +kernel
theorem dX5_mannersAt_69 : decode cX5_mannersAt 69 = .ok (.aload_n 2, 1) := by decide +kernel
theorem dX5_mannersAt_70 : decode cX5_mannersAt 70 = .ok (.iload_n 3, 1) := by decide +kernel
theorem dX5_mannersAt_71 : decode cX5_mannersAt 71 = .ok (.iconst 1, 1) := by decide +kernel
theorem dX5_mannersAt_72 : decode cX5_mannersAt 72 = .ok (.isub, 1) := by decide +kernel
theorem dX5_mannersAt_73 : decode cX5_mannersAt 73 = .ok (.invokevirtual 137, 3) := by decide +kernel
theorem dX5_mannersAt_76 : decode cX5_mannersAt 76 = .ok (.invokestatic 259, 3) := by decide +kernel
theorem dX5_mannersAt_79 : decode cX5_mannersAt 79 = .ok (.ireturn, 1) := by decide +kernel
theorem dX5_mannersAt_80 : decode cX5_mannersAt 80 = .ok (.iload 4, 2) := by decide +kernel
theorem dX5_mannersAt_82 : decode cX5_mannersAt 82 = .ok (.aload_n 2, 1) := by decide +kernel
theorem dX5_mannersAt_83 : decode cX5_mannersAt 83 = .ok (.iload_n 3, 1) := by decide +kernel
theorem dX5_mannersAt_84 : decode cX5_mannersAt 84 = .ok (.invokevirtual 137, 3) := by decide +kernel
theorem dX5_mannersAt_87 : decode cX5_mannersAt 87 = .ok (.aload_n 2, 1) := by decide +kernel
theorem dX5_mannersAt_88 : decode cX5_mannersAt 88 = .ok (.iload_n 3, 1) := by decide +kernel
theorem dX5_mannersAt_89 : decode cX5_mannersAt 89 = .ok (.iconst 1, 1) := by decide +kernel
theorem dX5_mannersAt_90 : decode cX5_mannersAt 90 = .ok (.isub, 1) := by decide +kernel
theorem dX5_mannersAt_91 : decode cX5_mannersAt 91 = .ok (.invokevirtual 137, 3) := by decide +kernel
theorem dX5_mannersAt_94 : decode cX5_mannersAt 94 = .ok (.invokestatic 262, 3) := by decide +kernel
theorem dX5_mannersAt_97 : decode cX5_mannersAt 97 = .ok (.invokestatic 259, 3) := by decide +kernel
theorem dX5_mannersAt_100 : decode cX5_mannersAt 100 = .ok (.ireturn, 1) := by decide +kernel
theorem dX5_mannersAt_101 : decode cX5_mannersAt 101 = .ok (.iload_n 3, 1) := by decide +kernel
theorem dX5_mannersAt_102 : decode cX5_mannersAt 102 = .ok (.iconst 2, 1) := by decide +kernel
theorem dX5_mannersAt_103 : decode cX5_mannersAt 103 = .ok (.irem, 1) := by decide +kernel
theorem dX5_mannersAt_104 : decode cX5_mannersAt 104 = .ok (.ifCond .ne 7, 3) := by decide +kernel
theorem dX5_mannersAt_107 : decode cX5_mannersAt 107 = .ok (.iconst 3, 1) := by decide +kernel
theorem dX5_mannersAt_108 : decode cX5_mannersAt 108 = .ok (.goto 4, 3) := by decide +kernel
theorem dX5_mannersAt_111 : decode cX5_mannersAt 111 = .ok (.iconst 0, 1) := by decide +kernel
theorem dX5_mannersAt_112 : decode cX5_mannersAt 112 = .ok (.ireturn, 1) := by decide +kernel
theorem dX5_mannersAt_113 : decode cX5_mannersAt 113 = .ok (.iload 4, 2) := by decide +kernel
theorem dX5_mannersAt_115 : decode cX5_mannersAt 115 = .ok (.aload_n 2, 1) := by decide +kernel
theorem dX5_mannersAt_116 : decode cX5_mannersAt 116 = .ok (.iload_n 3, 1) := by decide +kernel
theorem dX5_mannersAt_117 : decode cX5_mannersAt 117 = .ok (.invokevirtual 137, 3) := by decide +kernel
theorem dX5_mannersAt_120 : decode cX5_mannersAt 120 = .ok (.invokestatic 259, 3) := by decide +kernel
theorem dX5_mannersAt_123 : decode cX5_mannersAt 123 = .ok (.ireturn, 1) := by decide +kernel
theorem dX5_above_0 : decode cX5_above 0 = .ok (.iconst 0, 1) := by decide +kernel
theorem dX5_above_1 : decode cX5_above 1 = .ok (.iload_n 1, 1) := by decide +kernel
theorem dX5_above_2 : decode cX5_above 2 = .ok (.iload_n 0, 1) := by decide +kernel
theorem dX5_above_3 : decode cX5_above 3 = .ok (.isub, 1) := by decide +kernel
theorem dX5_above_4 : decode cX5_above 4 = .ok (.invokestatic 254, 3) := by decide +kernel
theorem dX5_above_7 : decode cX5_above 7 = .ok (.ireturn, 1) := by decide +kernel
theorem dX5_howAt_0 : decode cX5_howAt 0 = .ok (.iload_n 0, 1) := by decide +kernel
theorem dX5_howAt_1 : decode cX5_howAt 1 = .ok (.ifCond .ne 5, 3) := by decide +kernel
theorem dX5_howAt_4 : decode cX5_howAt 4 = .ok (.iconst 0, 1) := by decide +kernel
theorem dX5_howAt_5 : decode cX5_howAt 5 = .ok (.ireturn, 1) := by decide +kernel
theorem dX5_howAt_6 : decode cX5_howAt 6 = .ok (.iload_n 0, 1) := by decide +kernel
theorem dX5_howAt_7 : decode cX5_howAt 7 = .ok (.iconst 5, 1) := by decide +kernel
theorem dX5_howAt_8 : decode cX5_howAt 8 = .ok (.if_icmp .ge 7, 3) := by decide +kernel
theorem dX5_howAt_11 : decode cX5_howAt 11 = .ok (.iconst 1, 1) := by decide +kernel
theorem dX5_howAt_12 : decode cX5_howAt 12 = .ok (.goto 4, 3) := by decide +kernel
theorem dX5_howAt_15 : decode cX5_howAt 15 = .ok (.iconst 2, 1) := by decide +kernel
theorem dX5_howAt_16 : decode cX5_howAt 16 = .ok (.ireturn, 1) := by decide +kernel
set_option maxRecDepth 20000 in
theorem ggX5_hoursOf_X5_mannersAt : GoodIn wsX5_hoursOf wsX5_mannersAt := goodIn_r _ [5, 6, 7, 8, 9, 10, 11, 12, 13, 14, 15, 16, 17, 18, 19, 20, 4, 21, 22, 23, 24, 25, 26, 27, 28, 29, 30, 31, 32, 33, 34, 35, 36, 37, 41, 42, 43, 44, 45, 46, 47, 48, 49, 50, 51, 52, 53, 54] (by decide +kernel) (by decide +kernel)
set_option maxRecDepth 20000 in
theorem gX5_hoursOf_X5_mannersAt : GoodIn wsX5_hoursOf (wsV RX5 124 RX5 yX5_mannersAt wsX5_mannersAt) := goodIn_app (goodIn_of _ (by decide +kernel)) ggX5_hoursOf_X5_mannersAt
set_option maxRecDepth 20000 in
theorem ggX5_hoursOf_X5_howAt : GoodIn wsX5_hoursOf wsX5_howAt := goodIn_r _ [40] (by decide +kernel) (by decide +kernel)
set_option maxRecDepth 20000 in
theorem gX5_hoursOf_X5_howAt : GoodIn wsX5_hoursOf (va_wsS RX5 265 yX5_howAt wsX5_howAt) := goodIn_app (goodIn_of _ (by decide +kernel)) ggX5_hoursOf_X5_howAt
theorem dX5_hoursOf_0 : decode cX5_hoursOf 0 = .ok (.iconst 0, 1) := by decide +kernel
theorem dX5_hoursOf_1 : decode cX5_hoursOf 1 = .ok (.istore 4, 2) := by decide +kernel
theorem dX5_hoursOf_3 : decode cX5_hoursOf 3 = .ok (.iconst 0, 1) := by decide +kernel
theorem dX5_hoursOf_4 : decode cX5_hoursOf 4 = .ok (.istore 5, 2) := by decide +kernel
theorem dX5_hoursOf_6 : decode cX5_hoursOf 6 = .ok (.iload 5, 2) := by decide +kernel
theorem dX5_hoursOf_8 : decode cX5_hoursOf 8 = .ok (.bipush 12, 2) := by decide +kernel
theorem dX5_hoursOf_10 : decode cX5_hoursOf 10 = .ok (.if_icmp .ge 27, 3) := by decide +kernel
theorem dX5_hoursOf_13 : decode cX5_hoursOf 13 = .ok (.aload_n 0, 1) := by decide +kernel
theorem dX5_hoursOf_14 : decode cX5_hoursOf 14 = .ok (.iload_n 2, 1) := by decide +kernel
theorem dX5_hoursOf_15 : decode cX5_hoursOf 15 = .ok (.aload_n 3, 1) := by decide +kernel
theorem dX5_hoursOf_16 : decode cX5_hoursOf 16 = .ok (.iload 5, 2) := by decide +kernel
theorem dX5_hoursOf_18 : decode cX5_hoursOf 18 = .ok (.invokevirtual 124, 3) := by decide +kernel
theorem dX5_hoursOf_21 : decode cX5_hoursOf 21 = .ok (.invokestatic 265, 3) := by decide +kernel
theorem dX5_hoursOf_24 : decode cX5_hoursOf 24 = .ok (.iload_n 1, 1) := by decide +kernel
theorem dX5_hoursOf_25 : decode cX5_hoursOf 25 = .ok (.if_icmp .ne 6, 3) := by decide +kernel
theorem dX5_hoursOf_28 : decode cX5_hoursOf 28 = .ok (.iinc 4 1, 3) := by decide +kernel
theorem dX5_hoursOf_31 : decode cX5_hoursOf 31 = .ok (.iinc 5 1, 3) := by decide +kernel
theorem dX5_hoursOf_34 : decode cX5_hoursOf 34 = .ok (.goto (-28), 3) := by decide +kernel
theorem dX5_hoursOf_37 : decode cX5_hoursOf 37 = .ok (.iload 4, 2) := by decide +kernel
theorem dX5_hoursOf_39 : decode cX5_hoursOf 39 = .ok (.ireturn, 1) := by decide +kernel
set_option maxRecDepth 20000 in
theorem ggX5_hoursOfAll_X5_hoursOf : GoodIn wsX5_hoursOfAll wsX5_hoursOf := goodIn_r _ [6, 7, 8, 9, 5, 10, 11, 12, 13, 14, 15, 16, 17, 18, 19, 20, 21, 22, 23, 24, 25, 26, 27, 28, 29, 30, 31, 32, 33, 34, 35, 36, 37, 38, 39, 40, 41, 42, 43, 44, 45, 46, 47, 48, 49, 50, 51, 52, 53, 54, 55, 56, 57, 58, 59] (by decide +kernel) (by decide +kernel)
set_option maxRecDepth 20000 in
theorem gX5_hoursOfAll_X5_hoursOf : GoodIn wsX5_hoursOfAll (wsV RX5 116 RX5 yX5_hoursOf wsX5_hoursOf) := goodIn_app (goodIn_of _ (by decide +kernel)) ggX5_hoursOfAll_X5_hoursOf
theorem dX5_hoursOfAll_0 : decode cX5_hoursOfAll 0 = .ok (.iconst 0, 1) := by decide +kernel
theorem dX5_hoursOfAll_1 : decode cX5_hoursOfAll 1 = .ok (.istore_n 3, 1) := by decide +kernel
theorem dX5_hoursOfAll_2 : decode cX5_hoursOfAll 2 = .ok (.iconst 0, 1) := by decide +kernel
theorem dX5_hoursOfAll_3 : decode cX5_hoursOfAll 3 = .ok (.istore 4, 2) := by decide +kernel
theorem dX5_hoursOfAll_5 : decode cX5_hoursOfAll 5 = .ok (.iload 4, 2) := by decide +kernel
theorem dX5_hoursOfAll_7 : decode cX5_hoursOfAll 7 = .ok (.aload_n 0, 1) := by decide +kernel
theorem dX5_hoursOfAll_8 : decode cX5_hoursOfAll 8 = .ok (.getfield 65, 3) := by decide +kernel
theorem dX5_hoursOfAll_11 : decode cX5_hoursOfAll 11 = .ok (.if_icmp .ge 20, 3) := by decide +kernel
theorem dX5_hoursOfAll_14 : decode cX5_hoursOfAll 14 = .ok (.iload_n 3, 1) := by decide +kernel
theorem dX5_hoursOfAll_15 : decode cX5_hoursOfAll 15 = .ok (.aload_n 0, 1) := by decide +kernel
theorem dX5_hoursOfAll_16 : decode cX5_hoursOfAll 16 = .ok (.iload_n 1, 1) := by decide +kernel
theorem dX5_hoursOfAll_17 : decode cX5_hoursOfAll 17 = .ok (.iload 4, 2) := by decide +kernel
theorem dX5_hoursOfAll_19 : decode cX5_hoursOfAll 19 = .ok (.aload_n 2, 1) := by decide +kernel
theorem dX5_hoursOfAll_20 : decode cX5_hoursOfAll 20 = .ok (.invokevirtual 116, 3) := by decide +kernel
theorem dX5_hoursOfAll_23 : decode cX5_hoursOfAll 23 = .ok (.iadd, 1) := by decide +kernel
theorem dX5_hoursOfAll_24 : decode cX5_hoursOfAll 24 = .ok (.istore_n 3, 1) := by decide +kernel
theorem dX5_hoursOfAll_25 : decode cX5_hoursOfAll 25 = .ok (.iinc 4 1, 3) := by decide +kernel
theorem dX5_hoursOfAll_28 : decode cX5_hoursOfAll 28 = .ok (.goto (-23), 3) := by decide +kernel
theorem dX5_hoursOfAll_31 : decode cX5_hoursOfAll 31 = .ok (.iload_n 3, 1) := by decide +kernel
theorem dX5_hoursOfAll_32 : decode cX5_hoursOfAll 32 = .ok (.ireturn, 1) := by decide +kernel
set_option maxRecDepth 20000 in
theorem ggX5_hourOfMostManners_X5_mannersAt : GoodIn wsX5_hourOfMostManners wsX5_mannersAt := goodIn_r _ [5, 6, 7, 8, 9, 10, 11, 12, 13, 14, 15, 16, 17, 18, 19, 20, 4, 21, 22, 23, 24, 25, 26, 27, 28, 29, 30, 31, 32, 33, 34, 35, 36, 37, 38, 39, 40, 41, 42, 43, 44, 45, 46, 47, 48, 49, 50, 51] (by decide +kernel) (by decide +kernel)
set_option maxRecDepth 20000 in
theorem gX5_hourOfMostManners_X5_mannersAt : GoodIn wsX5_hourOfMostManners (wsV RX5 124 RX5 yX5_mannersAt wsX5_mannersAt) := goodIn_app (goodIn_of _ (by decide +kernel)) ggX5_hourOfMostManners_X5_mannersAt
theorem dX5_hourOfMostManners_0 : decode cX5_hourOfMostManners 0 = .ok (.iconst 0, 1) := by decide +kernel
theorem dX5_hourOfMostManners_1 : decode cX5_hourOfMostManners 1 = .ok (.istore_n 3, 1) := by decide +kernel
theorem dX5_hourOfMostManners_2 : decode cX5_hourOfMostManners 2 = .ok (.iconst 1, 1) := by decide +kernel
theorem dX5_hourOfMostManners_3 : decode cX5_hourOfMostManners 3 = .ok (.istore 4, 2) := by decide +kernel
theorem dX5_hourOfMostManners_5 : decode cX5_hourOfMostManners 5 = .ok (.iload 4, 2) := by decide +kernel
theorem dX5_hourOfMostManners_7 : decode cX5_hourOfMostManners 7 = .ok (.bipush 12, 2) := by decide +kernel
theorem dX5_hourOfMostManners_9 : decode cX5_hourOfMostManners 9 = .ok (.if_icmp .ge 30, 3) := by decide +kernel
theorem dX5_hourOfMostManners_12 : decode cX5_hourOfMostManners 12 = .ok (.aload_n 0, 1) := by decide +kernel
theorem dX5_hourOfMostManners_13 : decode cX5_hourOfMostManners 13 = .ok (.iload_n 1, 1) := by decide +kernel
theorem dX5_hourOfMostManners_14 : decode cX5_hourOfMostManners 14 = .ok (.aload_n 2, 1) := by decide +kernel
theorem dX5_hourOfMostManners_15 : decode cX5_hourOfMostManners 15 = .ok (.iload 4, 2) := by decide +kernel
theorem dX5_hourOfMostManners_17 : decode cX5_hourOfMostManners 17 = .ok (.invokevirtual 124, 3) := by decide +kernel
theorem dX5_hourOfMostManners_20 : decode cX5_hourOfMostManners 20 = .ok (.aload_n 0, 1) := by decide +kernel
theorem dX5_hourOfMostManners_21 : decode cX5_hourOfMostManners 21 = .ok (.iload_n 1, 1) := by decide +kernel
theorem dX5_hourOfMostManners_22 : decode cX5_hourOfMostManners 22 = .ok (.aload_n 2, 1) := by decide +kernel
theorem dX5_hourOfMostManners_23 : decode cX5_hourOfMostManners 23 = .ok (.iload_n 3, 1) := by decide +kernel
theorem dX5_hourOfMostManners_24 : decode cX5_hourOfMostManners 24 = .ok (.invokevirtual 124, 3) := by decide +kernel
theorem dX5_hourOfMostManners_27 : decode cX5_hourOfMostManners 27 = .ok (.if_icmp .le 6, 3) := by decide +kernel
theorem dX5_hourOfMostManners_30 : decode cX5_hourOfMostManners 30 = .ok (.iload 4, 2) := by decide +kernel
theorem dX5_hourOfMostManners_32 : decode cX5_hourOfMostManners 32 = .ok (.istore_n 3, 1) := by decide +kernel
theorem dX5_hourOfMostManners_33 : decode cX5_hourOfMostManners 33 = .ok (.iinc 4 1, 3) := by decide +kernel
theorem dX5_hourOfMostManners_36 : decode cX5_hourOfMostManners 36 = .ok (.goto (-31), 3) := by decide +kernel
theorem dX5_hourOfMostManners_39 : decode cX5_hourOfMostManners 39 = .ok (.iload_n 3, 1) := by decide +kernel
theorem dX5_hourOfMostManners_40 : decode cX5_hourOfMostManners 40 = .ok (.ireturn, 1) := by decide +kernel
set_option maxRecDepth 20000 in
theorem ggX5_canDine_X5_mannersAt : GoodIn wsX5_canDine wsX5_mannersAt := goodIn_r _ [6, 7, 8, 9, 10, 11, 12, 13, 14, 15, 16, 17, 18, 19, 20, 21, 5, 22, 23, 24, 25, 26, 27, 28, 29, 30, 31, 32, 33, 34, 35, 36, 37, 38, 42, 43, 44, 45, 46, 47, 48, 49, 50, 51, 52, 53, 54, 55] (by decide +kernel) (by decide +kernel)
set_option maxRecDepth 20000 in
theorem gX5_canDine_X5_mannersAt : GoodIn wsX5_canDine (wsV RX5 124 RX5 yX5_mannersAt wsX5_mannersAt) := goodIn_app (goodIn_of _ (by decide +kernel)) ggX5_canDine_X5_mannersAt
set_option maxRecDepth 20000 in
theorem ggX5_canDine_X5_howAt : GoodIn wsX5_canDine wsX5_howAt := goodIn_r _ [41] (by decide +kernel) (by decide +kernel)
set_option maxRecDepth 20000 in
theorem gX5_canDine_X5_howAt : GoodIn wsX5_canDine (va_wsS RX5 265 yX5_howAt wsX5_howAt) := goodIn_app (goodIn_of _ (by decide +kernel)) ggX5_canDine_X5_howAt
theorem dX5_canDine_0 : decode cX5_canDine 0 = .ok (.iconst 0, 1) := by decide +kernel
theorem dX5_canDine_1 : decode cX5_canDine 1 = .ok (.istore 5, 2) := by decide +kernel
theorem dX5_canDine_3 : decode cX5_canDine 3 = .ok (.iload 5, 2) := by decide +kernel
theorem dX5_canDine_5 : decode cX5_canDine 5 = .ok (.aload_n 0, 1) := by decide +kernel
theorem dX5_canDine_6 : decode cX5_canDine 6 = .ok (.getfield 65, 3) := by decide +kernel
theorem dX5_canDine_9 : decode cX5_canDine 9 = .ok (.if_icmp .ge 64, 3) := by decide +kernel
theorem dX5_canDine_12 : decode cX5_canDine 12 = .ok (.iload_n 1, 1) := by decide +kernel
theorem dX5_canDine_13 : decode cX5_canDine 13 = .ok (.iload 5, 2) := by decide +kernel
theorem dX5_canDine_15 : decode cX5_canDine 15 = .ok (.ishr, 1) := by decide +kernel
theorem dX5_canDine_16 : decode cX5_canDine 16 = .ok (.iconst 1, 1) := by decide +kernel
theorem dX5_canDine_17 : decode cX5_canDine 17 = .ok (.iand, 1) := by decide +kernel
theorem dX5_canDine_18 : decode cX5_canDine 18 = .ok (.iconst 1, 1) := by decide +kernel
theorem dX5_canDine_19 : decode cX5_canDine 19 = .ok (.if_icmp .ne 7, 3) := by decide +kernel
theorem dX5_canDine_22 : decode cX5_canDine 22 = .ok (.iconst 1, 1) := by decide +kernel
theorem dX5_canDine_23 : decode cX5_canDine 23 = .ok (.goto 4, 3) := by decide +kernel
theorem dX5_canDine_26 : decode cX5_canDine 26 = .ok (.iconst 0, 1) := by decide +kernel
theorem dX5_canDine_27 : decode cX5_canDine 27 = .ok (.istore 6, 2) := by decide +kernel
theorem dX5_canDine_29 : decode cX5_canDine 29 = .ok (.iload_n 3, 1) := by decide +kernel
theorem dX5_canDine_30 : decode cX5_canDine 30 = .ok (.istore 7, 2) := by decide +kernel
theorem dX5_canDine_32 : decode cX5_canDine 32 = .ok (.iload 6, 2) := by decide +kernel
theorem dX5_canDine_34 : decode cX5_canDine 34 = .ok (.ifCond .eq 33, 3) := by decide +kernel
theorem dX5_canDine_37 : decode cX5_canDine 37 = .ok (.iload 7, 2) := by decide +kernel
theorem dX5_canDine_39 : decode cX5_canDine 39 = .ok (.iload 4, 2) := by decide +kernel
theorem dX5_canDine_41 : decode cX5_canDine 41 = .ok (.if_icmp .ge 26, 3) := by decide +kernel
theorem dX5_canDine_44 : decode cX5_canDine 44 = .ok (.aload_n 0, 1) := by decide +kernel
theorem dX5_canDine_45 : decode cX5_canDine 45 = .ok (.iload 5, 2) := by decide +kernel
theorem dX5_canDine_47 : decode cX5_canDine 47 = .ok (.aload_n 2, 1) := by decide +kernel
theorem dX5_canDine_48 : decode cX5_canDine 48 = .ok (.iload 7, 2) := by decide +kernel
theorem dX5_canDine_50 : decode cX5_canDine 50 = .ok (.invokevirtual 124, 3) := by decide +kernel
theorem dX5_canDine_53 : decode cX5_canDine 53 = .ok (.invokestatic 265, 3) := by decide +kernel
theorem dX5_canDine_56 : decode cX5_canDine 56 = .ok (.ifCond .ne 5, 3) := by decide +kernel
theorem dX5_canDine_59 : decode cX5_canDine 59 = .ok (.iconst 0, 1) := by decide +kernel
theorem dX5_canDine_60 : decode cX5_canDine 60 = .ok (.ireturn, 1) := by decide +kernel
theorem dX5_canDine_61 : decode cX5_canDine 61 = .ok (.iinc 7 1, 3) := by decide +kernel
theorem dX5_canDine_64 : decode cX5_canDine 64 = .ok (.goto (-32), 3) := by decide +kernel
theorem dX5_canDine_67 : decode cX5_canDine 67 = .ok (.iinc 5 1, 3) := by decide +kernel
theorem dX5_canDine_70 : decode cX5_canDine 70 = .ok (.goto (-67), 3) := by decide +kernel
theorem dX5_canDine_73 : decode cX5_canDine 73 = .ok (.iconst 1, 1) := by decide +kernel
theorem dX5_canDine_74 : decode cX5_canDine 74 = .ok (.ireturn, 1) := by decide +kernel
set_option maxRecDepth 20000 in
theorem ggX5_agreesWithHeard_X1_size : GoodIn wsX5_agreesWithHeard wsX1_size := goodIn_r _ [7, 8, 99, 100, 101, 102, 103] (by decide +kernel) (by decide +kernel)
set_option maxRecDepth 20000 in
theorem gX5_agreesWithHeard_X1_size : GoodIn wsX5_agreesWithHeard (wsV RX5 180 RX1 yX1_size wsX1_size) := goodIn_app (goodIn_of _ (by decide +kernel)) ggX5_agreesWithHeard_X1_size
set_option maxRecDepth 20000 in
theorem ggX5_agreesWithHeard_X1_loud : GoodIn wsX5_agreesWithHeard wsX1_loud := goodIn_r _ [12, 13, 14, 15, 16, 6, 17, 8, 18, 19, 20, 99, 100, 101, 102, 103] (by decide +kernel) (by decide +kernel)
set_option maxRecDepth 20000 in
theorem gX5_agreesWithHeard_X1_loud : GoodIn wsX5_agreesWithHeard (wsV RX5 268 RX1 yX1_loud wsX1_loud) := goodIn_app (goodIn_of _ (by decide +kernel)) ggX5_agreesWithHeard_X1_loud
set_option maxRecDepth 20000 in
theorem ggX5_agreesWithHeard_X5_suppose : GoodIn wsX5_agreesWithHeard wsX5_suppose := goodIn_r _ [24, 25, 26, 27, 28, 29, 30, 31, 32, 33, 34, 35, 36, 37, 38, 39, 86, 87, 88, 89, 90, 91, 92, 93, 94, 104] (by decide +kernel) (by decide +kernel)
set_option maxRecDepth 20000 in
theorem gX5_agreesWithHeard_X5_suppose : GoodIn wsX5_agreesWithHeard (wsV RX5 164 RX5 yX5_suppose wsX5_suppose) := goodIn_app (goodIn_of _ (by decide +kernel)) ggX5_agreesWithHeard_X5_suppose
set_option maxRecDepth 20000 in
theorem ggX5_agreesWithHeard_X1_house : GoodIn wsX5_agreesWithHeard wsX1_house := goodIn_r _ [43, 44, 14, 15, 16, 6, 17, 8, 18, 19, 20, 99, 100, 101, 102, 103] (by decide +kernel) (by decide +kernel)
set_option maxRecDepth 20000 in
theorem gX5_agreesWithHeard_X1_house : GoodIn wsX5_agreesWithHeard (wsV RX5 269 RX1 yX1_house wsX1_house) := goodIn_app (goodIn_of _ (by decide +kernel)) ggX5_agreesWithHeard_X1_house
set_option maxRecDepth 20000 in
theorem ggX5_agreesWithHeard_X1_hour : GoodIn wsX5_agreesWithHeard wsX1_hour := goodIn_r _ [48, 49, 14, 15, 16, 6, 17, 8, 18, 19, 20, 99, 100, 101, 102, 103] (by decide +kernel) (by decide +kernel)
set_option maxRecDepth 20000 in
theorem gX5_agreesWithHeard_X1_hour : GoodIn wsX5_agreesWithHeard (wsV RX5 272 RX1 yX1_hour wsX1_hour) := goodIn_app (goodIn_of _ (by decide +kernel)) ggX5_agreesWithHeard_X1_hour
set_option maxRecDepth 20000 in
theorem ggX5_agreesWithHeard_X5_mannersAt : GoodIn wsX5_agreesWithHeard wsX5_mannersAt := goodIn_r _ [53, 1, 54, 37, 38, 39, 55, 56, 57, 58, 59, 60, 61, 62, 63, 18, 19, 20, 64, 65, 66, 67, 68, 69, 70, 71, 72, 29, 73, 31, 74, 75, 76, 77, 86, 87, 88, 89, 90, 91, 92, 93, 94, 95, 96, 97, 98, 104] (by decide +kernel) (by decide +kernel)
set_option maxRecDepth 20000 in
theorem gX5_agreesWithHeard_X5_mannersAt : GoodIn wsX5_agreesWithHeard (wsV RX5 124 RX5 yX5_mannersAt wsX5_mannersAt) := goodIn_app (goodIn_of _ (by decide +kernel)) ggX5_agreesWithHeard_X5_mannersAt
set_option maxRecDepth 20000 in
theorem ggX5_agreesWithHeard_X5_howAt : GoodIn wsX5_agreesWithHeard wsX5_howAt := goodIn_r _ [80] (by decide +kernel) (by decide +kernel)
set_option maxRecDepth 20000 in
theorem gX5_agreesWithHeard_X5_howAt : GoodIn wsX5_agreesWithHeard (va_wsS RX5 265 yX5_howAt wsX5_howAt) := goodIn_app (goodIn_of _ (by decide +kernel)) ggX5_agreesWithHeard_X5_howAt
set_option maxRecDepth 20000 in
theorem ggX5_agreesWithHeard_X1_how : GoodIn wsX5_agreesWithHeard wsX1_how := goodIn_r _ [84, 85, 14, 15, 16, 6, 17, 8, 18, 19, 20, 99, 100, 101, 102, 103] (by decide +kernel) (by decide +kernel)
set_option maxRecDepth 20000 in
theorem gX5_agreesWithHeard_X1_how : GoodIn wsX5_agreesWithHeard (wsV RX5 273 RX1 yX1_how wsX1_how) := goodIn_app (goodIn_of _ (by decide +kernel)) ggX5_agreesWithHeard_X1_how
theorem dX5_agreesWithHeard_0 : decode cX5_agreesWithHeard 0 = .ok (.aload_n 0, 1) := by decide +kernel
theorem dX5_agreesWithHeard_1 : decode cX5_agreesWithHeard 1 = .ok (.getfield 23, 3) := by decide +kernel
theorem dX5_agreesWithHeard_4 : decode cX5_agreesWithHeard 4 = .ok (.getfield 171, 3) := by decide +kernel
theorem dX5_agreesWithHeard_7 : decode cX5_agreesWithHeard 7 = .ok (.astore_n 3, 1) := by decide +kernel
theorem dX5_agreesWithHeard_8 : decode cX5_agreesWithHeard 8 = .ok (.iconst 0, 1) := by decide +kernel
theorem dX5_agreesWithHeard_9 : decode cX5_agreesWithHeard 9 = .ok (.istore 4, 2) := by decide +kernel
theorem dX5_agreesWithHeard_11 : decode cX5_agreesWithHeard 11 = .ok (.iload 4, 2) := by decide +kernel
theorem dX5_agreesWithHeard_13 : decode cX5_agreesWithHeard 13 = .ok (.aload_n 3, 1) := by decide +kernel
theorem dX5_agreesWithHeard_14 : decode cX5_agreesWithHeard 14 = .ok (.invokevirtual 180, 3) := by decide +kernel
theorem dX5_agreesWithHeard_17 : decode cX5_agreesWithHeard 17 = .ok (.if_icmp .ge 59, 3) := by decide +kernel
theorem dX5_agreesWithHeard_20 : decode cX5_agreesWithHeard 20 = .ok (.aload_n 0, 1) := by decide +kernel
theorem dX5_agreesWithHeard_21 : decode cX5_agreesWithHeard 21 = .ok (.aload_n 1, 1) := by decide +kernel
theorem dX5_agreesWithHeard_22 : decode cX5_agreesWithHeard 22 = .ok (.iload_n 2, 1) := by decide +kernel
theorem dX5_agreesWithHeard_23 : decode cX5_agreesWithHeard 23 = .ok (.aload_n 3, 1) := by decide +kernel
theorem dX5_agreesWithHeard_24 : decode cX5_agreesWithHeard 24 = .ok (.iload 4, 2) := by decide +kernel
theorem dX5_agreesWithHeard_26 : decode cX5_agreesWithHeard 26 = .ok (.invokevirtual 268, 3) := by decide +kernel
theorem dX5_agreesWithHeard_29 : decode cX5_agreesWithHeard 29 = .ok (.invokevirtual 164, 3) := by decide +kernel
theorem dX5_agreesWithHeard_32 : decode cX5_agreesWithHeard 32 = .ok (.astore 5, 2) := by decide +kernel
theorem dX5_agreesWithHeard_34 : decode cX5_agreesWithHeard 34 = .ok (.aload_n 0, 1) := by decide +kernel
theorem dX5_agreesWithHeard_35 : decode cX5_agreesWithHeard 35 = .ok (.aload_n 3, 1) := by decide +kernel
theorem dX5_agreesWithHeard_36 : decode cX5_agreesWithHeard 36 = .ok (.iload 4, 2) := by decide +kernel
theorem dX5_agreesWithHeard_38 : decode cX5_agreesWithHeard 38 = .ok (.invokevirtual 269, 3) := by decide +kernel
theorem dX5_agreesWithHeard_41 : decode cX5_agreesWithHeard 41 = .ok (.aload 5, 2) := by decide +kernel
theorem dX5_agreesWithHeard_43 : decode cX5_agreesWithHeard 43 = .ok (.aload_n 3, 1) := by decide +kernel
theorem dX5_agreesWithHeard_44 : decode cX5_agreesWithHeard 44 = .ok (.iload 4, 2) := by decide +kernel
theorem dX5_agreesWithHeard_46 : decode cX5_agreesWithHeard 46 = .ok (.invokevirtual 272, 3) := by decide +kernel
theorem dX5_agreesWithHeard_49 : decode cX5_agreesWithHeard 49 = .ok (.invokevirtual 124, 3) := by decide +kernel
theorem dX5_agreesWithHeard_52 : decode cX5_agreesWithHeard 52 = .ok (.istore 6, 2) := by decide +kernel
theorem dX5_agreesWithHeard_54 : decode cX5_agreesWithHeard 54 = .ok (.iload 6, 2) := by decide +kernel
theorem dX5_agreesWithHeard_56 : decode cX5_agreesWithHeard 56 = .ok (.invokestatic 265, 3) := by decide +kernel
theorem dX5_agreesWithHeard_59 : decode cX5_agreesWithHeard 59 = .ok (.aload_n 3, 1) := by decide +kernel
theorem dX5_agreesWithHeard_60 : decode cX5_agreesWithHeard 60 = .ok (.iload 4, 2) := by decide +kernel
theorem dX5_agreesWithHeard_62 : decode cX5_agreesWithHeard 62 = .ok (.invokevirtual 273, 3) := by decide +kernel
theorem dX5_agreesWithHeard_65 : decode cX5_agreesWithHeard 65 = .ok (.if_icmp .eq 5, 3) := by decide +kernel
theorem dX5_agreesWithHeard_68 : decode cX5_agreesWithHeard 68 = .ok (.iconst 0, 1) := by decide +kernel
theorem dX5_agreesWithHeard_69 : decode cX5_agreesWithHeard 69 = .ok (.ireturn, 1) := by decide +kernel
theorem dX5_agreesWithHeard_70 : decode cX5_agreesWithHeard 70 = .ok (.iinc 4 1, 3) := by decide +kernel
theorem dX5_agreesWithHeard_73 : decode cX5_agreesWithHeard 73 = .ok (.goto (-62), 3) := by decide +kernel
theorem dX5_agreesWithHeard_76 : decode cX5_agreesWithHeard 76 = .ok (.iconst 1, 1) := by decide +kernel
theorem dX5_agreesWithHeard_77 : decode cX5_agreesWithHeard 77 = .ok (.ireturn, 1) := by decide +kernel
set_option maxRecDepth 20000 in
theorem ggX5_mostLeft_X1_lastLoud : GoodIn wsX5_mostLeft wsX1_lastLoud := goodIn_r _ [11, 12, 13, 14, 15, 10, 16, 17, 18, 19, 20, 21, 22, 23, 24, 84, 85, 86, 87, 88] (by decide +kernel) (by decide +kernel)
set_option maxRecDepth 20000 in
theorem gX5_mostLeft_X1_lastLoud : GoodIn wsX5_mostLeft (wsV RX5 276 RX1 yX1_lastLoud wsX1_lastLoud) := goodIn_app (goodIn_of _ (by decide +kernel)) ggX5_mostLeft_X1_lastLoud
set_option maxRecDepth 20000 in
theorem ggX5_mostLeft_X5_suppose : GoodIn wsX5_mostLeft wsX5_suppose := goodIn_r _ [28, 29, 30, 31, 32, 33, 34, 35, 36, 37, 38, 39, 40, 4, 5, 6, 71, 72, 73, 74, 75, 76, 77, 78, 79, 89] (by decide +kernel) (by decide +kernel)
set_option maxRecDepth 20000 in
theorem gX5_mostLeft_X5_suppose : GoodIn wsX5_mostLeft (wsV RX5 164 RX5 yX5_suppose wsX5_suppose) := goodIn_app (goodIn_of _ (by decide +kernel)) ggX5_mostLeft_X5_suppose
set_option maxRecDepth 20000 in
theorem ggX5_mostLeft_X5_mannersAt : GoodIn wsX5_mostLeft wsX5_mannersAt := goodIn_r _ [44, 1, 3, 4, 5, 6, 45, 46, 47, 48, 49, 50, 51, 52, 53, 22, 23, 24, 54, 55, 56, 57, 58, 59, 60, 61, 62, 33, 63, 35, 64, 65, 66, 67, 71, 72, 73, 74, 75, 76, 77, 78, 79, 80, 81, 82, 83, 89] (by decide +kernel) (by decide +kernel)
set_option maxRecDepth 20000 in
theorem gX5_mostLeft_X5_mannersAt : GoodIn wsX5_mostLeft (wsV RX5 124 RX5 yX5_mannersAt wsX5_mannersAt) := goodIn_app (goodIn_of _ (by decide +kernel)) ggX5_mostLeft_X5_mannersAt
set_option maxRecDepth 20000 in
theorem ggX5_mostLeft_X5_howAt : GoodIn wsX5_mostLeft wsX5_howAt := goodIn_r _ [70] (by decide +kernel) (by decide +kernel)
set_option maxRecDepth 20000 in
theorem gX5_mostLeft_X5_howAt : GoodIn wsX5_mostLeft (va_wsS RX5 265 yX5_howAt wsX5_howAt) := goodIn_app (goodIn_of _ (by decide +kernel)) ggX5_mostLeft_X5_howAt
theorem dX5_mostLeft_0 : decode cX5_mostLeft 0 = .ok (.aload_n 0, 1) := by decide +kernel
theorem dX5_mostLeft_1 : decode cX5_mostLeft 1 = .ok (.getfield 23, 3) := by decide +kernel
theorem dX5_mostLeft_4 : decode cX5_mostLeft 4 = .ok (.getfield 171, 3) := by decide +kernel
theorem dX5_mostLeft_7 : decode cX5_mostLeft 7 = .ok (.invokevirtual 276, 3) := by decide +kernel
theorem dX5_mostLeft_10 : decode cX5_mostLeft 10 = .ok (.istore 5, 2) := by decide +kernel
theorem dX5_mostLeft_12 : decode cX5_mostLeft 12 = .ok (.iconst 0, 1) := by decide +kernel
theorem dX5_mostLeft_13 : decode cX5_mostLeft 13 = .ok (.istore 6, 2) := by decide +kernel
theorem dX5_mostLeft_15 : decode cX5_mostLeft 15 = .ok (.iconst 0, 1) := by decide +kernel
theorem dX5_mostLeft_16 : decode cX5_mostLeft 16 = .ok (.istore 7, 2) := by decide +kernel
theorem dX5_mostLeft_18 : decode cX5_mostLeft 18 = .ok (.iconst 0, 1) := by decide +kernel
theorem dX5_mostLeft_19 : decode cX5_mostLeft 19 = .ok (.istore 8, 2) := by decide +kernel
theorem dX5_mostLeft_21 : decode cX5_mostLeft 21 = .ok (.iconst 0, 1) := by decide +kernel
theorem dX5_mostLeft_22 : decode cX5_mostLeft 22 = .ok (.istore 9, 2) := by decide +kernel
theorem dX5_mostLeft_24 : decode cX5_mostLeft 24 = .ok (.iload 9, 2) := by decide +kernel
theorem dX5_mostLeft_26 : decode cX5_mostLeft 26 = .ok (.bipush 10, 2) := by decide +kernel
theorem dX5_mostLeft_28 : decode cX5_mostLeft 28 = .ok (.if_icmp .ge 81, 3) := by decide +kernel
theorem dX5_mostLeft_31 : decode cX5_mostLeft 31 = .ok (.iload_n 1, 1) := by decide +kernel
theorem dX5_mostLeft_32 : decode cX5_mostLeft 32 = .ok (.iload 9, 2) := by decide +kernel
theorem dX5_mostLeft_34 : decode cX5_mostLeft 34 = .ok (.ishr, 1) := by decide +kernel
theorem dX5_mostLeft_35 : decode cX5_mostLeft 35 = .ok (.iconst 1, 1) := by decide +kernel
theorem dX5_mostLeft_36 : decode cX5_mostLeft 36 = .ok (.iand, 1) := by decide +kernel
theorem dX5_mostLeft_37 : decode cX5_mostLeft 37 = .ok (.ifCond .ne 6, 3) := by decide +kernel
theorem dX5_mostLeft_40 : decode cX5_mostLeft 40 = .ok (.goto 63, 3) := by decide +kernel
theorem dX5_mostLeft_43 : decode cX5_mostLeft 43 = .ok (.aload_n 0, 1) := by decide +kernel
theorem dX5_mostLeft_44 : decode cX5_mostLeft 44 = .ok (.iload_n 3, 1) := by decide +kernel
theorem dX5_mostLeft_45 : decode cX5_mostLeft 45 = .ok (.aload_n 0, 1) := by decide +kernel
theorem dX5_mostLeft_46 : decode cX5_mostLeft 46 = .ok (.aload_n 2, 1) := by decide +kernel
theorem dX5_mostLeft_47 : decode cX5_mostLeft 47 = .ok (.iload 9, 2) := by decide +kernel
theorem dX5_mostLeft_49 : decode cX5_mostLeft 49 = .ok (.iload 5, 2) := by decide +kernel
theorem dX5_mostLeft_51 : decode cX5_mostLeft 51 = .ok (.invokevirtual 164, 3) := by decide +kernel
theorem dX5_mostLeft_54 : decode cX5_mostLeft 54 = .ok (.iload 4, 2) := by decide +kernel
theorem dX5_mostLeft_56 : decode cX5_mostLeft 56 = .ok (.invokevirtual 124, 3) := by decide +kernel
theorem dX5_mostLeft_59 : decode cX5_mostLeft 59 = .ok (.invokestatic 265, 3) := by decide +kernel
theorem dX5_mostLeft_62 : decode cX5_mostLeft 62 = .ok (.lookupswitch 38 #[(0, 26), (1, 32)], 26) := by decide +kernel
theorem dX5_mostLeft_88 : decode cX5_mostLeft 88 = .ok (.iinc 6 1, 3) := by decide +kernel
theorem dX5_mostLeft_91 : decode cX5_mostLeft 91 = .ok (.goto 12, 3) := by decide +kernel
theorem dX5_mostLeft_94 : decode cX5_mostLeft 94 = .ok (.iinc 7 1, 3) := by decide +kernel
theorem dX5_mostLeft_97 : decode cX5_mostLeft 97 = .ok (.goto 6, 3) := by decide +kernel
theorem dX5_mostLeft_100 : decode cX5_mostLeft 100 = .ok (.iinc 8 1, 3) := by decide +kernel
theorem dX5_mostLeft_103 : decode cX5_mostLeft 103 = .ok (.iinc 9 1, 3) := by decide +kernel
theorem dX5_mostLeft_106 : decode cX5_mostLeft 106 = .ok (.goto (-82), 3) := by decide +kernel
theorem dX5_mostLeft_109 : decode cX5_mostLeft 109 = .ok (.iload 6, 2) := by decide +kernel
theorem dX5_mostLeft_111 : decode cX5_mostLeft 111 = .ok (.iload 7, 2) := by decide +kernel
theorem dX5_mostLeft_113 : decode cX5_mostLeft 113 = .ok (.iload 8, 2) := by decide +kernel
theorem dX5_mostLeft_115 : decode cX5_mostLeft 115 = .ok (.invokestatic 254, 3) := by decide +kernel
theorem dX5_mostLeft_118 : decode cX5_mostLeft 118 = .ok (.invokestatic 254, 3) := by decide +kernel
theorem dX5_mostLeft_121 : decode cX5_mostLeft 121 = .ok (.ireturn, 1) := by decide +kernel
theorem dX6_init_0 : decode cX6_init 0 = .ok (.aload_n 0, 1) := by decide +kernel
theorem dX6_init_1 : decode cX6_init 1 = .ok (.invokespecial 1, 3) := by decide +kernel
theorem dX6_init_4 : decode cX6_init 4 = .ok (.aload_n 0, 1) := by decide +kernel
theorem dX6_init_5 : decode cX6_init 5 = .ok (.iconst 5, 1) := by decide +kernel
theorem dX6_init_6 : decode cX6_init 6 = .ok (.newarray .int, 2) := by decide +kernel
theorem dX6_init_8 : decode cX6_init 8 = .ok (.putfield 7, 3) := by decide +kernel
theorem dX6_init_11 : decode cX6_init 11 = .ok (.aload_n 0, 1) := by decide +kernel
theorem dX6_init_12 : decode cX6_init 12 = .ok (.iconst 5, 1) := by decide +kernel
theorem dX6_init_13 : decode cX6_init 13 = .ok (.newarray .int, 2) := by decide +kernel
theorem dX6_init_15 : decode cX6_init 15 = .ok (.putfield 13, 3) := by decide +kernel
theorem dX6_init_18 : decode cX6_init 18 = .ok (.aload_n 0, 1) := by decide +kernel
theorem dX6_init_19 : decode cX6_init 19 = .ok (.bipush 7, 2) := by decide +kernel
theorem dX6_init_21 : decode cX6_init 21 = .ok (.newarray .int, 2) := by decide +kernel
theorem dX6_init_23 : decode cX6_init 23 = .ok (.putfield 16, 3) := by decide +kernel
theorem dX6_init_26 : decode cX6_init 26 = .ok (.aload_n 0, 1) := by decide +kernel
theorem dX6_init_27 : decode cX6_init 27 = .ok (.bipush 7, 2) := by decide +kernel
theorem dX6_init_29 : decode cX6_init 29 = .ok (.newarray .int, 2) := by decide +kernel
theorem dX6_init_31 : decode cX6_init 31 = .ok (.putfield 19, 3) := by decide +kernel
theorem dX6_init_34 : decode cX6_init 34 = .ok (.aload_n 0, 1) := by decide +kernel
theorem dX6_init_35 : decode cX6_init 35 = .ok (.bipush 6, 2) := by decide +kernel
theorem dX6_init_37 : decode cX6_init 37 = .ok (.newarray .int, 2) := by decide +kernel
theorem dX6_init_39 : decode cX6_init 39 = .ok (.putfield 22, 3) := by decide +kernel
theorem dX6_init_42 : decode cX6_init 42 = .ok (.aload_n 0, 1) := by decide +kernel
theorem dX6_init_43 : decode cX6_init 43 = .ok (.bipush 6, 2) := by decide +kernel
theorem dX6_init_45 : decode cX6_init 45 = .ok (.newarray .int, 2) := by decide +kernel
theorem dX6_init_47 : decode cX6_init 47 = .ok (.putfield 25, 3) := by decide +kernel
theorem dX6_init_50 : decode cX6_init 50 = .ok (.aload_n 0, 1) := by decide +kernel
theorem dX6_init_51 : decode cX6_init 51 = .ok (.bipush 6, 2) := by decide +kernel
theorem dX6_init_53 : decode cX6_init 53 = .ok (.newarray .int, 2) := by decide +kernel
theorem dX6_init_55 : decode cX6_init 55 = .ok (.putfield 28, 3) := by decide +kernel
theorem dX6_init_58 : decode cX6_init 58 = .ok (.aload_n 0, 1) := by decide +kernel
theorem dX6_init_59 : decode cX6_init 59 = .ok (.bipush 6, 2) := by decide +kernel
theorem dX6_init_61 : decode cX6_init 61 = .ok (.newarray .int, 2) := by decide +kernel
theorem dX6_init_63 : decode cX6_init 63 = .ok (.putfield 31, 3) := by decide +kernel
theorem dX6_init_66 : decode cX6_init 66 = .ok (.aload_n 0, 1) := by decide +kernel
theorem dX6_init_67 : decode cX6_init 67 = .ok (.bipush 25, 2) := by decide +kernel
theorem dX6_init_69 : decode cX6_init 69 = .ok (.newarray .byte, 2) := by decide +kernel
theorem dX6_init_71 : decode cX6_init 71 = .ok (.putfield 34, 3) := by decide +kernel
theorem dX6_init_74 : decode cX6_init 74 = .ok (.aload_n 0, 1) := by decide +kernel
theorem dX6_init_75 : decode cX6_init 75 = .ok (.bipush 7, 2) := by decide +kernel
theorem dX6_init_77 : decode cX6_init 77 = .ok (.newarray .int, 2) := by decide +kernel
theorem dX6_init_79 : decode cX6_init 79 = .ok (.putfield 38, 3) := by decide +kernel
theorem dX6_init_82 : decode cX6_init 82 = .ok (.aload_n 0, 1) := by decide +kernel
theorem dX6_init_83 : decode cX6_init 83 = .ok (.iconst 5, 1) := by decide +kernel
theorem dX6_init_84 : decode cX6_init 84 = .ok (.newarray .int, 2) := by decide +kernel
theorem dX6_init_86 : decode cX6_init 86 = .ok (.putfield 41, 3) := by decide +kernel
theorem dX6_init_89 : decode cX6_init 89 = .ok (.aload_n 0, 1) := by decide +kernel
theorem dX6_init_90 : decode cX6_init 90 = .ok (.bipush 6, 2) := by decide +kernel
theorem dX6_init_92 : decode cX6_init 92 = .ok (.newarray .int, 2) := by decide +kernel
theorem dX6_init_94 : decode cX6_init 94 = .ok (.putfield 44, 3) := by decide +kernel
theorem dX6_init_97 : decode cX6_init 97 = .ok (.aload_n 0, 1) := by decide +kernel
theorem dX6_init_98 : decode cX6_init 98 = .ok (.bipush 6, 2) := by decide +kernel
theorem dX6_init_100 : decode cX6_init 100 = .ok (.newarray .int, 2) := by decide +kernel
theorem dX6_init_102 : decode cX6_init 102 = .ok (.putfield 47, 3) := by decide +kernel
theorem dX6_init_105 : decode cX6_init 105 = .ok (.aload_n 0, 1) := by decide +kernel
theorem dX6_init_106 : decode cX6_init 106 = .ok (.bipush 6, 2) := by decide +kernel
theorem dX6_init_108 : decode cX6_init 108 = .ok (.newarray .int, 2) := by decide +kernel
theorem dX6_init_110 : decode cX6_init 110 = .ok (.putfield 50, 3) := by decide +kernel
theorem dX6_init_113 : decode cX6_init 113 = .ok (.aload_n 0, 1) := by decide +kernel
theorem dX6_init_114 : decode cX6_init 114 = .ok (.bipush 6, 2) := by decide +kernel
theorem dX6_init_116 : decode cX6_init 116 = .ok (.newarray .int, 2) := by decide +kernel
theorem dX6_init_118 : decode cX6_init 118 = .ok (.putfield 53, 3) := by decide +kernel
theorem dX6_init_121 : decode cX6_init 121 = .ok (.aload_n 0, 1) := by decide +kernel
theorem dX6_init_122 : decode cX6_init 122 = .ok (.bipush 6, 2) := by decide +kernel
theorem dX6_init_124 : decode cX6_init 124 = .ok (.newarray .int, 2) := by decide +kernel
theorem dX6_init_126 : decode cX6_init 126 = .ok (.putfield 56, 3) := by decide +kernel
theorem dX6_init_129 : decode cX6_init 129 = .ok (.aload_n 0, 1) := by decide +kernel
theorem dX6_init_130 : decode cX6_init 130 = .ok (.bipush 6, 2) := by decide +kernel
theorem dX6_init_132 : decode cX6_init 132 = .ok (.newarray .int, 2) := by decide +kernel
theorem dX6_init_134 : decode cX6_init 134 = .ok (.putfield 59, 3) := by decide +kernel
theorem dX6_init_137 : decode cX6_init 137 = .ok (.return_, 1) := by decide +kernel
theorem dX6_within_0 : decode cX6_within 0 = .ok (.iload_n 0, 1) := by decide +kernel
theorem dX6_within_1 : decode cX6_within 1 = .ok (.iload_n 1, 1) := by decide +kernel
theorem dX6_within_2 : decode cX6_within 2 = .ok (.if_icmp .lt 12, 3) := by decide +kernel
theorem dX6_within_5 : decode cX6_within 5 = .ok (.iload_n 0, 1) := by decide +kernel
theorem dX6_within_6 : decode cX6_within 6 = .ok (.iload_n 2, 1) := by decide +kernel
theorem dX6_within_7 : decode cX6_within 7 = .ok (.if_icmp .gt 7, 3) := by decide +kernel
theorem dX6_within_10 : decode cX6_within 10 = .ok (.iconst 1, 1) := by decide +kernel
theorem dX6_within_11 : decode cX6_within 11 = .ok (.goto 4, 3) := by decide +kernel
theorem dX6_within_14 : decode cX6_within 14 = .ok (.iconst 0, 1) := by decide +kernel
theorem dX6_within_15 : decode cX6_within 15 = .ok (.ireturn, 1) := by decide +kernel
theorem dX6_isIn_0 : decode cX6_isIn 0 = .ok (.iload_n 0, 1) := by decide +kernel
theorem dX6_isIn_1 : decode cX6_isIn 1 = .ok (.iload_n 1, 1) := by decide +kernel
theorem dX6_isIn_2 : decode cX6_isIn 2 = .ok (.ishr, 1) := by decide +kernel
theorem dX6_isIn_3 : decode cX6_isIn 3 = .ok (.iconst 1, 1) := by decide +kernel
theorem dX6_isIn_4 : decode cX6_isIn 4 = .ok (.iand, 1) := by decide +kernel
theorem dX6_isIn_5 : decode cX6_isIn 5 = .ok (.iconst 1, 1) := by decide +kernel
theorem dX6_isIn_6 : decode cX6_isIn 6 = .ok (.if_icmp .ne 7, 3) := by decide +kernel
theorem dX6_isIn_9 : decode cX6_isIn 9 = .ok (.iconst 1, 1) := by decide +kernel
theorem dX6_isIn_10 : decode cX6_isIn 10 = .ok (.goto 4, 3) := by decide +kernel
theorem dX6_isIn_13 : decode cX6_isIn 13 = .ok (.iconst 0, 1) := by decide +kernel
theorem dX6_isIn_14 : decode cX6_isIn 14 = .ok (.ireturn, 1) := by decide +kernel
set_option maxRecDepth 20000 in
theorem ggX6_letter_X6_within : GoodIn wsX6_letter wsX6_within := goodIn_r _ [6] (by decide +kernel) (by decide +kernel)
set_option maxRecDepth 20000 in
theorem gX6_letter_X6_within : GoodIn wsX6_letter (va_wsS RX6 62 yX6_within wsX6_within) := goodIn_app (goodIn_of _ (by decide +kernel)) ggX6_letter_X6_within
theorem dX6_letter_0 : decode cX6_letter 0 = .ok (.iload_n 1, 1) := by decide +kernel
theorem dX6_letter_1 : decode cX6_letter 1 = .ok (.bipush 32, 2) := by decide +kernel
theorem dX6_letter_3 : decode cX6_letter 3 = .ok (.bipush 126, 2) := by decide +kernel
theorem dX6_letter_5 : decode cX6_letter 5 = .ok (.invokestatic 62, 3) := by decide +kernel
theorem dX6_letter_8 : decode cX6_letter 8 = .ok (.ifCond .ne 6, 3) := by decide +kernel
theorem dX6_letter_11 : decode cX6_letter 11 = .ok (.bipush (-102), 2) := by decide +kernel
theorem dX6_letter_13 : decode cX6_letter 13 = .ok (.ireturn, 1) := by decide +kernel
theorem dX6_letter_14 : decode cX6_letter 14 = .ok (.aload_n 0, 1) := by decide +kernel
theorem dX6_letter_15 : decode cX6_letter 15 = .ok (.getfield 66, 3) := by decide +kernel
theorem dX6_letter_18 : decode cX6_letter 18 = .ok (.bipush 25, 2) := by decide +kernel
theorem dX6_letter_20 : decode cX6_letter 20 = .ok (.if_icmp .ne 6, 3) := by decide +kernel
theorem dX6_letter_23 : decode cX6_letter 23 = .ok (.bipush (-104), 2) := by decide +kernel
theorem dX6_letter_25 : decode cX6_letter 25 = .ok (.ireturn, 1) := by decide +kernel
theorem dX6_letter_26 : decode cX6_letter 26 = .ok (.aload_n 0, 1) := by decide +kernel
theorem dX6_letter_27 : decode cX6_letter 27 = .ok (.getfield 34, 3) := by decide +kernel
theorem dX6_letter_30 : decode cX6_letter 30 = .ok (.aload_n 0, 1) := by decide +kernel
theorem dX6_letter_31 : decode cX6_letter 31 = .ok (.getfield 66, 3) := by decide +kernel
theorem dX6_letter_34 : decode cX6_letter 34 = .ok (.iload_n 1, 1) := by decide +kernel
theorem dX6_letter_35 : decode cX6_letter 35 = .ok (.i2b, 1) := by decide +kernel
theorem dX6_letter_36 : decode cX6_letter 36 = .ok (.bastore, 1) := by decide +kernel
theorem dX6_letter_37 : decode cX6_letter 37 = .ok (.aload_n 0, 1) := by decide +kernel
theorem dX6_letter_38 : decode cX6_letter 38 = .ok (.dup, 1) := by decide +kernel
theorem dX6_letter_39 : decode cX6_letter 39 = .ok (.getfield 66, 3) := by decide +kernel
theorem dX6_letter_42 : decode cX6_letter 42 = .ok (.iconst 1, 1) := by decide +kernel
theorem dX6_letter_43 : decode cX6_letter 43 = .ok (.iadd, 1) := by decide +kernel
theorem dX6_letter_44 : decode cX6_letter 44 = .ok (.putfield 66, 3) := by decide +kernel
theorem dX6_letter_47 : decode cX6_letter 47 = .ok (.aload_n 0, 1) := by decide +kernel
theorem dX6_letter_48 : decode cX6_letter 48 = .ok (.getfield 66, 3) := by decide +kernel
theorem dX6_letter_51 : decode cX6_letter 51 = .ok (.ireturn, 1) := by decide +kernel
theorem dX6_blank_0 : decode cX6_blank 0 = .ok (.aload_n 0, 1) := by decide +kernel
theorem dX6_blank_1 : decode cX6_blank 1 = .ok (.getfield 66, 3) := by decide +kernel
theorem dX6_blank_4 : decode cX6_blank 4 = .ok (.istore_n 1, 1) := by decide +kernel
theorem dX6_blank_5 : decode cX6_blank 5 = .ok (.aload_n 0, 1) := by decide +kernel
theorem dX6_blank_6 : decode cX6_blank 6 = .ok (.iconst 0, 1) := by decide +kernel
theorem dX6_blank_7 : decode cX6_blank 7 = .ok (.putfield 66, 3) := by decide +kernel
theorem dX6_blank_10 : decode cX6_blank 10 = .ok (.iload_n 1, 1) := by decide +kernel
theorem dX6_blank_11 : decode cX6_blank 11 = .ok (.ireturn, 1) := by decide +kernel
theorem dX6_kindBy_0 : decode cX6_kindBy 0 = .ok (.iload_n 0, 1) := by decide +kernel
theorem dX6_kindBy_1 : decode cX6_kindBy 1 = .ok (.tableswitch 77 99 111 #[75, 73, 77, 77, 77, 67, 77, 77, 77, 69, 77, 77, 71], 67) := by decide +kernel
theorem dX6_kindBy_68 : decode cX6_kindBy 68 = .ok (.iconst 0, 1) := by decide +kernel
theorem dX6_kindBy_69 : decode cX6_kindBy 69 = .ok (.ireturn, 1) := by decide +kernel
theorem dX6_kindBy_70 : decode cX6_kindBy 70 = .ok (.iconst 1, 1) := by decide +kernel
theorem dX6_kindBy_71 : decode cX6_kindBy 71 = .ok (.ireturn, 1) := by decide +kernel
theorem dX6_kindBy_72 : decode cX6_kindBy 72 = .ok (.iconst 2, 1) := by decide +kernel
theorem dX6_kindBy_73 : decode cX6_kindBy 73 = .ok (.ireturn, 1) := by decide +kernel
theorem dX6_kindBy_74 : decode cX6_kindBy 74 = .ok (.iconst 3, 1) := by decide +kernel
theorem dX6_kindBy_75 : decode cX6_kindBy 75 = .ok (.ireturn, 1) := by decide +kernel
theorem dX6_kindBy_76 : decode cX6_kindBy 76 = .ok (.iconst 4, 1) := by decide +kernel
theorem dX6_kindBy_77 : decode cX6_kindBy 77 = .ok (.ireturn, 1) := by decide +kernel
theorem dX6_kindBy_78 : decode cX6_kindBy 78 = .ok (.iconst (-1), 1) := by decide +kernel
theorem dX6_kindBy_79 : decode cX6_kindBy 79 = .ok (.ireturn, 1) := by decide +kernel
theorem dX6_figure_0 : decode cX6_figure 0 = .ok (.iload_n 1, 1) := by decide +kernel
theorem dX6_figure_1 : decode cX6_figure 1 = .ok (.aload_n 0, 1) := by decide +kernel
theorem dX6_figure_2 : decode cX6_figure 2 = .ok (.getfield 66, 3) := by decide +kernel
theorem dX6_figure_5 : decode cX6_figure 5 = .ok (.if_icmp .ge 15, 3) := by decide +kernel
theorem dX6_figure_8 : decode cX6_figure 8 = .ok (.aload_n 0, 1) := by decide +kernel
theorem dX6_figure_9 : decode cX6_figure 9 = .ok (.getfield 34, 3) := by decide +kernel
theorem dX6_figure_12 : decode cX6_figure 12 = .ok (.iload_n 1, 1) := by decide +kernel
theorem dX6_figure_13 : decode cX6_figure 13 = .ok (.baload, 1) := by decide +kernel
theorem dX6_figure_14 : decode cX6_figure 14 = .ok (.bipush 48, 2) := by decide +kernel
theorem dX6_figure_16 : decode cX6_figure 16 = .ok (.isub, 1) := by decide +kernel
theorem dX6_figure_17 : decode cX6_figure 17 = .ok (.goto 4, 3) := by decide +kernel
theorem dX6_figure_20 : decode cX6_figure 20 = .ok (.iconst (-1), 1) := by decide +kernel
theorem dX6_figure_21 : decode cX6_figure 21 = .ok (.ireturn, 1) := by decide +kernel
set_option maxRecDepth 20000 in
theorem ggX6_readStrokes_X6_figure : GoodIn wsX6_readStrokes wsX6_figure := goodIn_r _ [8, 2, 9, 13, 14, 15, 16, 17, 18, 19, 20, 21, 22, 23, 24, 25, 26, 27, 28, 29, 30, 31, 32, 33, 34, 35, 36, 37, 38, 39, 40, 41, 42, 43, 44, 45, 46] (by decide +kernel) (by decide +kernel)
set_option maxRecDepth 20000 in
theorem gX6_readStrokes_X6_figure : GoodIn wsX6_readStrokes (wsV RX6 77 RX6 yX6_figure wsX6_figure) := goodIn_app (goodIn_of _ (by decide +kernel)) ggX6_readStrokes_X6_figure
set_option maxRecDepth 20000 in
theorem ggX6_readStrokes_X6_within : GoodIn wsX6_readStrokes wsX6_within := goodIn_r _ [12] (by decide +kernel) (by decide +kernel)
set_option maxRecDepth 20000 in
theorem gX6_readStrokes_X6_within : GoodIn wsX6_readStrokes (va_wsS RX6 62 yX6_within wsX6_within) := goodIn_app (goodIn_of _ (by decide +kernel)) ggX6_readStrokes_X6_within
theorem dX6_readStrokes_0 : decode cX6_readStrokes 0 = .ok (.iload_n 1, 1) := by decide +kernel
theorem dX6_readStrokes_1 : decode cX6_readStrokes 1 = .ok (.istore_n 2, 1) := by decide +kernel
theorem dX6_readStrokes_2 : decode cX6_readStrokes 2 = .ok (.aload_n 0, 1) := by decide +kernel
theorem dX6_readStrokes_3 : decode cX6_readStrokes 3 = .ok (.getfield 70, 3) := by decide +kernel
theorem dX6_readStrokes_6 : decode cX6_readStrokes 6 = .ok (.iconst 4, 1) := by decide +kernel
theorem dX6_readStrokes_7 : decode cX6_readStrokes 7 = .ok (.if_icmp .ge 86, 3) := by decide +kernel
theorem dX6_readStrokes_10 : decode cX6_readStrokes 10 = .ok (.aload_n 0, 1) := by decide +kernel
theorem dX6_readStrokes_11 : decode cX6_readStrokes 11 = .ok (.iload_n 2, 1) := by decide +kernel
theorem dX6_readStrokes_12 : decode cX6_readStrokes 12 = .ok (.aload_n 0, 1) := by decide +kernel
theorem dX6_readStrokes_13 : decode cX6_readStrokes 13 = .ok (.getfield 66, 3) := by decide +kernel
theorem dX6_readStrokes_16 : decode cX6_readStrokes 16 = .ok (.if_icmp .ne 14, 3) := by decide +kernel
theorem dX6_readStrokes_19 : decode cX6_readStrokes 19 = .ok (.aload_n 0, 1) := by decide +kernel
theorem dX6_readStrokes_20 : decode cX6_readStrokes 20 = .ok (.getfield 70, 3) := by decide +kernel
theorem dX6_readStrokes_23 : decode cX6_readStrokes 23 = .ok (.ifCond .le 7, 3) := by decide +kernel
theorem dX6_readStrokes_26 : decode cX6_readStrokes 26 = .ok (.iconst 1, 1) := by decide +kernel
theorem dX6_readStrokes_27 : decode cX6_readStrokes 27 = .ok (.goto 4, 3) := by decide +kernel
theorem dX6_readStrokes_30 : decode cX6_readStrokes 30 = .ok (.iconst 0, 1) := by decide +kernel
theorem dX6_readStrokes_31 : decode cX6_readStrokes 31 = .ok (.putfield 73, 3) := by decide +kernel
theorem dX6_readStrokes_34 : decode cX6_readStrokes 34 = .ok (.aload_n 0, 1) := by decide +kernel
theorem dX6_readStrokes_35 : decode cX6_readStrokes 35 = .ok (.getfield 73, 3) := by decide +kernel
theorem dX6_readStrokes_38 : decode cX6_readStrokes 38 = .ok (.ifCond .ne 17, 3) := by decide +kernel
theorem dX6_readStrokes_41 : decode cX6_readStrokes 41 = .ok (.aload_n 0, 1) := by decide +kernel
theorem dX6_readStrokes_42 : decode cX6_readStrokes 42 = .ok (.iload_n 2, 1) := by decide +kernel
theorem dX6_readStrokes_43 : decode cX6_readStrokes 43 = .ok (.invokevirtual 77, 3) := by decide +kernel
theorem dX6_readStrokes_46 : decode cX6_readStrokes 46 = .ok (.iconst 0, 1) := by decide +kernel
theorem dX6_readStrokes_47 : decode cX6_readStrokes 47 = .ok (.bipush 9, 2) := by decide +kernel
theorem dX6_readStrokes_49 : decode cX6_readStrokes 49 = .ok (.invokestatic 62, 3) := by decide +kernel
theorem dX6_readStrokes_52 : decode cX6_readStrokes 52 = .ok (.ifCond .ne 5, 3) := by decide +kernel
theorem dX6_readStrokes_55 : decode cX6_readStrokes 55 = .ok (.iload_n 2, 1) := by decide +kernel
theorem dX6_readStrokes_56 : decode cX6_readStrokes 56 = .ok (.ireturn, 1) := by decide +kernel
theorem dX6_readStrokes_57 : decode cX6_readStrokes 57 = .ok (.aload_n 0, 1) := by decide +kernel
theorem dX6_readStrokes_58 : decode cX6_readStrokes 58 = .ok (.iload_n 2, 1) := by decide +kernel
theorem dX6_readStrokes_59 : decode cX6_readStrokes 59 = .ok (.iconst 1, 1) := by decide +kernel
theorem dX6_readStrokes_60 : decode cX6_readStrokes 60 = .ok (.iadd, 1) := by decide +kernel
theorem dX6_readStrokes_61 : decode cX6_readStrokes 61 = .ok (.invokevirtual 77, 3) := by decide +kernel
theorem dX6_readStrokes_64 : decode cX6_readStrokes 64 = .ok (.iconst 1, 1) := by decide +kernel
theorem dX6_readStrokes_65 : decode cX6_readStrokes 65 = .ok (.bipush 9, 2) := by decide +kernel
theorem dX6_readStrokes_67 : decode cX6_readStrokes 67 = .ok (.invokestatic 62, 3) := by decide +kernel
theorem dX6_readStrokes_70 : decode cX6_readStrokes 70 = .ok (.ifCond .ne 7, 3) := by decide +kernel
theorem dX6_readStrokes_73 : decode cX6_readStrokes 73 = .ok (.iload_n 2, 1) := by decide +kernel
theorem dX6_readStrokes_74 : decode cX6_readStrokes 74 = .ok (.iconst 1, 1) := by decide +kernel
theorem dX6_readStrokes_75 : decode cX6_readStrokes 75 = .ok (.iadd, 1) := by decide +kernel
theorem dX6_readStrokes_76 : decode cX6_readStrokes 76 = .ok (.ireturn, 1) := by decide +kernel
theorem dX6_readStrokes_77 : decode cX6_readStrokes 77 = .ok (.aload_n 0, 1) := by decide +kernel
theorem dX6_readStrokes_78 : decode cX6_readStrokes 78 = .ok (.dup, 1) := by decide +kernel
theorem dX6_readStrokes_79 : decode cX6_readStrokes 79 = .ok (.getfield 70, 3) := by decide +kernel
theorem dX6_readStrokes_82 : decode cX6_readStrokes 82 = .ok (.iconst 1, 1) := by decide +kernel
theorem dX6_readStrokes_83 : decode cX6_readStrokes 83 = .ok (.iadd, 1) := by decide +kernel
theorem dX6_readStrokes_84 : decode cX6_readStrokes 84 = .ok (.putfield 70, 3) := by decide +kernel
theorem dX6_readStrokes_87 : decode cX6_readStrokes 87 = .ok (.iinc 2 2, 3) := by decide +kernel
theorem dX6_readStrokes_90 : decode cX6_readStrokes 90 = .ok (.goto (-88), 3) := by decide +kernel
theorem dX6_readStrokes_93 : decode cX6_readStrokes 93 = .ok (.aload_n 0, 1) := by decide +kernel
theorem dX6_readStrokes_94 : decode cX6_readStrokes 94 = .ok (.iload_n 2, 1) := by decide +kernel
theorem dX6_readStrokes_95 : decode cX6_readStrokes 95 = .ok (.aload_n 0, 1) := by decide +kernel
theorem dX6_readStrokes_96 : decode cX6_readStrokes 96 = .ok (.getfield 66, 3) := by decide +kernel
theorem dX6_readStrokes_99 : decode cX6_readStrokes 99 = .ok (.if_icmp .ne 7, 3) := by decide +kernel
theorem dX6_readStrokes_102 : decode cX6_readStrokes 102 = .ok (.iconst 1, 1) := by decide +kernel
theorem dX6_readStrokes_103 : decode cX6_readStrokes 103 = .ok (.goto 4, 3) := by decide +kernel
theorem dX6_readStrokes_106 : decode cX6_readStrokes 106 = .ok (.iconst 0, 1) := by decide +kernel
theorem dX6_readStrokes_107 : decode cX6_readStrokes 107 = .ok (.putfield 73, 3) := by decide +kernel
theorem dX6_readStrokes_110 : decode cX6_readStrokes 110 = .ok (.iload_n 2, 1) := by decide +kernel
theorem dX6_readStrokes_111 : decode cX6_readStrokes 111 = .ok (.ireturn, 1) := by decide +kernel
set_option maxRecDepth 20000 in
theorem ggX6_read_X6_kindBy : GoodIn wsX6_read wsX6_kindBy := goodIn_r _ [9] (by decide +kernel) (by decide +kernel)
set_option maxRecDepth 20000 in
theorem gX6_read_X6_kindBy : GoodIn wsX6_read (va_wsS RX6 84 yX6_kindBy wsX6_kindBy) := goodIn_app (goodIn_of _ (by decide +kernel)) ggX6_read_X6_kindBy
set_option maxRecDepth 20000 in
theorem ggX6_read_X6_figure : GoodIn wsX6_read wsX6_figure := goodIn_r _ [13, 4, 5, 21, 22, 23, 24, 25, 26, 27, 28, 29, 30, 31, 32, 33, 34, 35, 36, 37, 38, 39, 40, 41, 42, 43, 44, 45, 46, 47, 48, 49, 50, 51, 52, 53, 54] (by decide +kernel) (by decide +kernel)
set_option maxRecDepth 20000 in
theorem gX6_read_X6_figure : GoodIn wsX6_read (wsV RX6 77 RX6 yX6_figure wsX6_figure) := goodIn_app (goodIn_of _ (by decide +kernel)) ggX6_read_X6_figure
set_option maxRecDepth 20000 in
theorem ggX6_read_X6_within : GoodIn wsX6_read wsX6_within := goodIn_r _ [16] (by decide +kernel) (by decide +kernel)
set_option maxRecDepth 20000 in
theorem gX6_read_X6_within : GoodIn wsX6_read (va_wsS RX6 62 yX6_within wsX6_within) := goodIn_app (goodIn_of _ (by decide +kernel)) ggX6_read_X6_within
set_option maxRecDepth 20000 in
theorem ggX6_read_X6_readStrokes : GoodIn wsX6_read wsX6_readStrokes := goodIn_r _ [20, 3, 4, 1, 10, 11, 12, 8, 13, 5, 14, 15, 16, 21, 22, 23, 24, 25, 26, 27, 28, 29, 30, 31, 32, 33, 34, 35, 36, 37, 38, 39, 40, 41, 42, 43, 44, 45, 46, 47, 48, 49, 50, 51, 52, 53, 54] (by decide +kernel) (by decide +kernel)
set_option maxRecDepth 20000 in
theorem gX6_read_X6_readStrokes : GoodIn wsX6_read (wsV RX6 87 RX6 yX6_readStrokes wsX6_readStrokes) := goodIn_app (goodIn_of _ (by decide +kernel)) ggX6_read_X6_readStrokes
theorem dX6_read_0 : decode cX6_read 0 = .ok (.aload_n 0, 1) := by decide +kernel
theorem dX6_read_1 : decode cX6_read 1 = .ok (.iconst 0, 1) := by decide +kernel
theorem dX6_read_2 : decode cX6_read 2 = .ok (.putfield 73, 3) := by decide +kernel
theorem dX6_read_5 : decode cX6_read 5 = .ok (.aload_n 0, 1) := by decide +kernel
theorem dX6_read_6 : decode cX6_read 6 = .ok (.iconst 0, 1) := by decide +kernel
theorem dX6_read_7 : decode cX6_read 7 = .ok (.putfield 81, 3) := by decide +kernel
theorem dX6_read_10 : decode cX6_read 10 = .ok (.aload_n 0, 1) := by decide +kernel
theorem dX6_read_11 : decode cX6_read 11 = .ok (.iconst 0, 1) := by decide +kernel
theorem dX6_read_12 : decode cX6_read 12 = .ok (.putfield 70, 3) := by decide +kernel
theorem dX6_read_15 : decode cX6_read 15 = .ok (.iconst 0, 1) := by decide +kernel
theorem dX6_read_16 : decode cX6_read 16 = .ok (.istore_n 1, 1) := by decide +kernel
theorem dX6_read_17 : decode cX6_read 17 = .ok (.aload_n 0, 1) := by decide +kernel
theorem dX6_read_18 : decode cX6_read 18 = .ok (.getfield 81, 3) := by decide +kernel
theorem dX6_read_21 : decode cX6_read 21 = .ok (.iconst 5, 1) := by decide +kernel
theorem dX6_read_22 : decode cX6_read 22 = .ok (.if_icmp .ge 129, 3) := by decide +kernel
theorem dX6_read_25 : decode cX6_read 25 = .ok (.iload_n 1, 1) := by decide +kernel
theorem dX6_read_26 : decode cX6_read 26 = .ok (.aload_n 0, 1) := by decide +kernel
theorem dX6_read_27 : decode cX6_read 27 = .ok (.getfield 66, 3) := by decide +kernel
theorem dX6_read_30 : decode cX6_read 30 = .ok (.if_icmp .eq 16, 3) := by decide +kernel
theorem dX6_read_33 : decode cX6_read 33 = .ok (.aload_n 0, 1) := by decide +kernel
theorem dX6_read_34 : decode cX6_read 34 = .ok (.getfield 34, 3) := by decide +kernel
theorem dX6_read_37 : decode cX6_read 37 = .ok (.iload_n 1, 1) := by decide +kernel
theorem dX6_read_38 : decode cX6_read 38 = .ok (.baload, 1) := by decide +kernel
theorem dX6_read_39 : decode cX6_read 39 = .ok (.invokestatic 84, 3) := by decide +kernel
theorem dX6_read_42 : decode cX6_read 42 = .ok (.iconst (-1), 1) := by decide +kernel
theorem dX6_read_43 : decode cX6_read 43 = .ok (.if_icmp .ne 5, 3) := by decide +kernel
theorem dX6_read_46 : decode cX6_read 46 = .ok (.iload_n 1, 1) := by decide +kernel
theorem dX6_read_47 : decode cX6_read 47 = .ok (.ireturn, 1) := by decide +kernel
theorem dX6_read_48 : decode cX6_read 48 = .ok (.aload_n 0, 1) := by decide +kernel
theorem dX6_read_49 : decode cX6_read 49 = .ok (.iload_n 1, 1) := by decide +kernel
theorem dX6_read_50 : decode cX6_read 50 = .ok (.iconst 1, 1) := by decide +kernel
theorem dX6_read_51 : decode cX6_read 51 = .ok (.iadd, 1) := by decide +kernel
theorem dX6_read_52 : decode cX6_read 52 = .ok (.invokevirtual 77, 3) := by decide +kernel
theorem dX6_read_55 : decode cX6_read 55 = .ok (.iconst 0, 1) := by decide +kernel
theorem dX6_read_56 : decode cX6_read 56 = .ok (.bipush 9, 2) := by decide +kernel
theorem dX6_read_58 : decode cX6_read 58 = .ok (.invokestatic 62, 3) := by decide +kernel
theorem dX6_read_61 : decode cX6_read 61 = .ok (.ifCond .ne 7, 3) := by decide +kernel
theorem dX6_read_64 : decode cX6_read 64 = .ok (.iload_n 1, 1) := by decide +kernel
theorem dX6_read_65 : decode cX6_read 65 = .ok (.iconst 1, 1) := by decide +kernel
theorem dX6_read_66 : decode cX6_read 66 = .ok (.iadd, 1) := by decide +kernel
theorem dX6_read_67 : decode cX6_read 67 = .ok (.ireturn, 1) := by decide +kernel
theorem dX6_read_68 : decode cX6_read 68 = .ok (.aload_n 0, 1) := by decide +kernel
theorem dX6_read_69 : decode cX6_read 69 = .ok (.dup, 1) := by decide +kernel
theorem dX6_read_70 : decode cX6_read 70 = .ok (.getfield 81, 3) := by decide +kernel
theorem dX6_read_73 : decode cX6_read 73 = .ok (.iconst 1, 1) := by decide +kernel
theorem dX6_read_74 : decode cX6_read 74 = .ok (.iadd, 1) := by decide +kernel
theorem dX6_read_75 : decode cX6_read 75 = .ok (.putfield 81, 3) := by decide +kernel
theorem dX6_read_78 : decode cX6_read 78 = .ok (.iinc 1 2, 3) := by decide +kernel
theorem dX6_read_81 : decode cX6_read 81 = .ok (.iload_n 1, 1) := by decide +kernel
theorem dX6_read_82 : decode cX6_read 82 = .ok (.aload_n 0, 1) := by decide +kernel
theorem dX6_read_83 : decode cX6_read 83 = .ok (.getfield 66, 3) := by decide +kernel
theorem dX6_read_86 : decode cX6_read 86 = .ok (.if_icmp .ge 30, 3) := by decide +kernel
theorem dX6_read_89 : decode cX6_read 89 = .ok (.aload_n 0, 1) := by decide +kernel
theorem dX6_read_90 : decode cX6_read 90 = .ok (.getfield 34, 3) := by decide +kernel
theorem dX6_read_93 : decode cX6_read 93 = .ok (.iload_n 1, 1) := by decide +kernel
theorem dX6_read_94 : decode cX6_read 94 = .ok (.baload, 1) := by decide +kernel
theorem dX6_read_95 : decode cX6_read 95 = .ok (.bipush 59, 2) := by decide +kernel
theorem dX6_read_97 : decode cX6_read 97 = .ok (.if_icmp .ne 19, 3) := by decide +kernel
theorem dX6_read_100 : decode cX6_read 100 = .ok (.aload_n 0, 1) := by decide +kernel
theorem dX6_read_101 : decode cX6_read 101 = .ok (.getfield 81, 3) := by decide +kernel
theorem dX6_read_104 : decode cX6_read 104 = .ok (.iconst 1, 1) := by decide +kernel
theorem dX6_read_105 : decode cX6_read 105 = .ok (.if_icmp .le 11, 3) := by decide +kernel
theorem dX6_read_108 : decode cX6_read 108 = .ok (.aload_n 0, 1) := by decide +kernel
theorem dX6_read_109 : decode cX6_read 109 = .ok (.iload_n 1, 1) := by decide +kernel
theorem dX6_read_110 : decode cX6_read 110 = .ok (.iconst 1, 1) := by decide +kernel
theorem dX6_read_111 : decode cX6_read 111 = .ok (.iadd, 1) := by decide +kernel
theorem dX6_read_112 : decode cX6_read 112 = .ok (.invokevirtual 87, 3) := by decide +kernel
theorem dX6_read_115 : decode cX6_read 115 = .ok (.ireturn, 1) := by decide +kernel
theorem dX6_read_116 : decode cX6_read 116 = .ok (.iload_n 1, 1) := by decide +kernel
theorem dX6_read_117 : decode cX6_read 117 = .ok (.aload_n 0, 1) := by decide +kernel
theorem dX6_read_118 : decode cX6_read 118 = .ok (.getfield 66, 3) := by decide +kernel
theorem dX6_read_121 : decode cX6_read 121 = .ok (.if_icmp .eq 22, 3) := by decide +kernel
theorem dX6_read_124 : decode cX6_read 124 = .ok (.aload_n 0, 1) := by decide +kernel
theorem dX6_read_125 : decode cX6_read 125 = .ok (.getfield 81, 3) := by decide +kernel
theorem dX6_read_128 : decode cX6_read 128 = .ok (.iconst 5, 1) := by decide +kernel
theorem dX6_read_129 : decode cX6_read 129 = .ok (.if_icmp .eq 14, 3) := by decide +kernel
theorem dX6_read_132 : decode cX6_read 132 = .ok (.aload_n 0, 1) := by decide +kernel
theorem dX6_read_133 : decode cX6_read 133 = .ok (.getfield 34, 3) := by decide +kernel
theorem dX6_read_136 : decode cX6_read 136 = .ok (.iload_n 1, 1) := by decide +kernel
theorem dX6_read_137 : decode cX6_read 137 = .ok (.baload, 1) := by decide +kernel
theorem dX6_read_138 : decode cX6_read 138 = .ok (.bipush 44, 2) := by decide +kernel
theorem dX6_read_140 : decode cX6_read 140 = .ok (.if_icmp .eq 5, 3) := by decide +kernel
theorem dX6_read_143 : decode cX6_read 143 = .ok (.iload_n 1, 1) := by decide +kernel
theorem dX6_read_144 : decode cX6_read 144 = .ok (.ireturn, 1) := by decide +kernel
theorem dX6_read_145 : decode cX6_read 145 = .ok (.iinc 1 1, 3) := by decide +kernel
theorem dX6_read_148 : decode cX6_read 148 = .ok (.goto (-131), 3) := by decide +kernel
theorem dX6_read_151 : decode cX6_read 151 = .ok (.iload_n 1, 1) := by decide +kernel
theorem dX6_read_152 : decode cX6_read 152 = .ok (.ireturn, 1) := by decide +kernel
set_option maxRecDepth 20000 in
theorem ggX6_fault_X6_read : GoodIn wsX6_fault wsX6_read := goodIn_r _ [5, 6, 7, 8, 9, 10, 11, 12, 4, 13, 14, 15, 16, 17, 18, 19, 20, 21, 22, 23, 24, 25, 26, 27, 28, 29, 30, 31, 32, 33, 34, 35, 36, 37, 38, 39, 40, 41, 42, 43, 44, 45, 46, 47, 48, 49, 50, 51, 52, 53, 54, 55, 56, 57, 58] (by decide +kernel) (by decide +kernel)
set_option maxRecDepth 20000 in
theorem gX6_fault_X6_read : GoodIn wsX6_fault (wsV RX6 90 RX6 yX6_read wsX6_read) := goodIn_app (goodIn_of _ (by decide +kernel)) ggX6_fault_X6_read
theorem dX6_fault_0 : decode cX6_fault 0 = .ok (.aload_n 0, 1) := by decide +kernel
theorem dX6_fault_1 : decode cX6_fault 1 = .ok (.invokevirtual 90, 3) := by decide +kernel
theorem dX6_fault_4 : decode cX6_fault 4 = .ok (.ireturn, 1) := by decide +kernel
set_option maxRecDepth 20000 in
theorem ggX6_colony_X6_read : GoodIn wsX6_colony wsX6_read := goodIn_r _ [19, 1, 2, 4, 14, 7, 20, 21, 18, 22, 23, 24, 25, 26, 27, 28, 29, 30, 31, 32, 33, 34, 35, 36, 37, 38, 39, 40, 41, 42, 43, 44, 45, 46, 47, 48, 49, 50, 51, 52, 53, 54, 55, 56, 57, 58, 59, 60, 61, 62, 63, 64, 65, 66, 67] (by decide +kernel) (by decide +kernel)
set_option maxRecDepth 20000 in
theorem gX6_colony_X6_read : GoodIn wsX6_colony (wsV RX6 90 RX6 yX6_read wsX6_read) := goodIn_app (goodIn_of _ (by decide +kernel)) ggX6_colony_X6_read
set_option maxRecDepth 20000 in
theorem ggX6_colony_X6_kindBy : GoodIn wsX6_colony wsX6_kindBy := goodIn_r _ [22] (by decide +kernel) (by decide +kernel)
set_option maxRecDepth 20000 in
theorem gX6_colony_X6_kindBy : GoodIn wsX6_colony (va_wsS RX6 84 yX6_kindBy wsX6_kindBy) := goodIn_app (goodIn_of _ (by decide +kernel)) ggX6_colony_X6_kindBy
theorem dX6_colony_0 : decode cX6_colony 0 = .ok (.aload_n 0, 1) := by decide +kernel
theorem dX6_colony_1 : decode cX6_colony 1 = .ok (.invokevirtual 90, 3) := by decide +kernel
theorem dX6_colony_4 : decode cX6_colony 4 = .ok (.pop, 1) := by decide +kernel
theorem dX6_colony_5 : decode cX6_colony 5 = .ok (.aload_n 0, 1) := by decide +kernel
theorem dX6_colony_6 : decode cX6_colony 6 = .ok (.getfield 73, 3) := by decide +kernel
theorem dX6_colony_9 : decode cX6_colony 9 = .ok (.ifCond .ne 6, 3) := by decide +kernel
theorem dX6_colony_12 : decode cX6_colony 12 = .ok (.bipush (-103), 2) := by decide +kernel
theorem dX6_colony_14 : decode cX6_colony 14 = .ok (.ireturn, 1) := by decide +kernel
theorem dX6_colony_15 : decode cX6_colony 15 = .ok (.aload_n 0, 1) := by decide +kernel
theorem dX6_colony_16 : decode cX6_colony 16 = .ok (.aload_n 0, 1) := by decide +kernel
theorem dX6_colony_17 : decode cX6_colony 17 = .ok (.getfield 81, 3) := by decide +kernel
theorem dX6_colony_20 : decode cX6_colony 20 = .ok (.putfield 94, 3) := by decide +kernel
theorem dX6_colony_23 : decode cX6_colony 23 = .ok (.aload_n 0, 1) := by decide +kernel
theorem dX6_colony_24 : decode cX6_colony 24 = .ok (.aload_n 0, 1) := by decide +kernel
theorem dX6_colony_25 : decode cX6_colony 25 = .ok (.getfield 70, 3) := by decide +kernel
theorem dX6_colony_28 : decode cX6_colony 28 = .ok (.putfield 97, 3) := by decide +kernel
theorem dX6_colony_31 : decode cX6_colony 31 = .ok (.iconst 0, 1) := by decide +kernel
theorem dX6_colony_32 : decode cX6_colony 32 = .ok (.istore_n 1, 1) := by decide +kernel
theorem dX6_colony_33 : decode cX6_colony 33 = .ok (.iload_n 1, 1) := by decide +kernel
theorem dX6_colony_34 : decode cX6_colony 34 = .ok (.aload_n 0, 1) := by decide +kernel
theorem dX6_colony_35 : decode cX6_colony 35 = .ok (.getfield 94, 3) := by decide +kernel
theorem dX6_colony_38 : decode cX6_colony 38 = .ok (.if_icmp .ge 45, 3) := by decide +kernel
theorem dX6_colony_41 : decode cX6_colony 41 = .ok (.aload_n 0, 1) := by decide +kernel
theorem dX6_colony_42 : decode cX6_colony 42 = .ok (.getfield 7, 3) := by decide +kernel
theorem dX6_colony_45 : decode cX6_colony 45 = .ok (.iload_n 1, 1) := by decide +kernel
theorem dX6_colony_46 : decode cX6_colony 46 = .ok (.aload_n 0, 1) := by decide +kernel
theorem dX6_colony_47 : decode cX6_colony 47 = .ok (.getfield 34, 3) := by decide +kernel
theorem dX6_colony_50 : decode cX6_colony 50 = .ok (.iconst 3, 1) := by decide +kernel
theorem dX6_colony_51 : decode cX6_colony 51 = .ok (.iload_n 1, 1) := by decide +kernel
theorem dX6_colony_52 : decode cX6_colony 52 = .ok (.imul, 1) := by decide +kernel
theorem dX6_colony_53 : decode cX6_colony 53 = .ok (.baload, 1) := by decide +kernel
theorem dX6_colony_54 : decode cX6_colony 54 = .ok (.invokestatic 84, 3) := by decide +kernel
theorem dX6_colony_57 : decode cX6_colony 57 = .ok (.iastore, 1) := by decide +kernel
theorem dX6_colony_58 : decode cX6_colony 58 = .ok (.aload_n 0, 1) := by decide +kernel
theorem dX6_colony_59 : decode cX6_colony 59 = .ok (.getfield 13, 3) := by decide +kernel
theorem dX6_colony_62 : decode cX6_colony 62 = .ok (.iload_n 1, 1) := by decide +kernel
theorem dX6_colony_63 : decode cX6_colony 63 = .ok (.aload_n 0, 1) := by decide +kernel
theorem dX6_colony_64 : decode cX6_colony 64 = .ok (.getfield 34, 3) := by decide +kernel
theorem dX6_colony_67 : decode cX6_colony 67 = .ok (.iconst 3, 1) := by decide +kernel
theorem dX6_colony_68 : decode cX6_colony 68 = .ok (.iload_n 1, 1) := by decide +kernel
theorem dX6_colony_69 : decode cX6_colony 69 = .ok (.imul, 1) := by decide +kernel
theorem dX6_colony_70 : decode cX6_colony 70 = .ok (.iconst 1, 1) := by decide +kernel
theorem dX6_colony_71 : decode cX6_colony 71 = .ok (.iadd, 1) := by decide +kernel
theorem dX6_colony_72 : decode cX6_colony 72 = .ok (.baload, 1) := by decide +kernel
theorem dX6_colony_73 : decode cX6_colony 73 = .ok (.bipush 48, 2) := by decide +kernel
theorem dX6_colony_75 : decode cX6_colony 75 = .ok (.isub, 1) := by decide +kernel
theorem dX6_colony_76 : decode cX6_colony 76 = .ok (.iastore, 1) := by decide +kernel
theorem dX6_colony_77 : decode cX6_colony 77 = .ok (.iinc 1 1, 3) := by decide +kernel
theorem dX6_colony_80 : decode cX6_colony 80 = .ok (.goto (-47), 3) := by decide +kernel
theorem dX6_colony_83 : decode cX6_colony 83 = .ok (.iconst 0, 1) := by decide +kernel
theorem dX6_colony_84 : decode cX6_colony 84 = .ok (.istore_n 1, 1) := by decide +kernel
theorem dX6_colony_85 : decode cX6_colony 85 = .ok (.iload_n 1, 1) := by decide +kernel
theorem dX6_colony_86 : decode cX6_colony 86 = .ok (.aload_n 0, 1) := by decide +kernel
theorem dX6_colony_87 : decode cX6_colony 87 = .ok (.getfield 97, 3) := by decide +kernel
theorem dX6_colony_90 : decode cX6_colony 90 = .ok (.if_icmp .ge 59, 3) := by decide +kernel
theorem dX6_colony_93 : decode cX6_colony 93 = .ok (.aload_n 0, 1) := by decide +kernel
theorem dX6_colony_94 : decode cX6_colony 94 = .ok (.getfield 16, 3) := by decide +kernel
theorem dX6_colony_97 : decode cX6_colony 97 = .ok (.iload_n 1, 1) := by decide +kernel
theorem dX6_colony_98 : decode cX6_colony 98 = .ok (.aload_n 0, 1) := by decide +kernel
theorem dX6_colony_99 : decode cX6_colony 99 = .ok (.getfield 34, 3) := by decide +kernel
theorem dX6_colony_102 : decode cX6_colony 102 = .ok (.iconst 3, 1) := by decide +kernel
theorem dX6_colony_103 : decode cX6_colony 103 = .ok (.aload_n 0, 1) := by decide +kernel
theorem dX6_colony_104 : decode cX6_colony 104 = .ok (.getfield 94, 3) := by decide +kernel
theorem dX6_colony_107 : decode cX6_colony 107 = .ok (.imul, 1) := by decide +kernel
theorem dX6_colony_108 : decode cX6_colony 108 = .ok (.iconst 2, 1) := by decide +kernel
theorem dX6_colony_109 : decode cX6_colony 109 = .ok (.iload_n 1, 1) := by decide +kernel
theorem dX6_colony_110 : decode cX6_colony 110 = .ok (.imul, 1) := by decide +kernel
theorem dX6_colony_111 : decode cX6_colony 111 = .ok (.iadd, 1) := by decide +kernel
theorem dX6_colony_112 : decode cX6_colony 112 = .ok (.baload, 1) := by decide +kernel
theorem dX6_colony_113 : decode cX6_colony 113 = .ok (.bipush 48, 2) := by decide +kernel
theorem dX6_colony_115 : decode cX6_colony 115 = .ok (.isub, 1) := by decide +kernel
theorem dX6_colony_116 : decode cX6_colony 116 = .ok (.iastore, 1) := by decide +kernel
theorem dX6_colony_117 : decode cX6_colony 117 = .ok (.aload_n 0, 1) := by decide +kernel
theorem dX6_colony_118 : decode cX6_colony 118 = .ok (.getfield 19, 3) := by decide +kernel
theorem dX6_colony_121 : decode cX6_colony 121 = .ok (.iload_n 1, 1) := by decide +kernel
theorem dX6_colony_122 : decode cX6_colony 122 = .ok (.aload_n 0, 1) := by decide +kernel
theorem dX6_colony_123 : decode cX6_colony 123 = .ok (.getfield 34, 3) := by decide +kernel
theorem dX6_colony_126 : decode cX6_colony 126 = .ok (.iconst 3, 1) := by decide +kernel
theorem dX6_colony_127 : decode cX6_colony 127 = .ok (.aload_n 0, 1) := by decide +kernel
theorem dX6_colony_128 : decode cX6_colony 128 = .ok (.getfield 94, 3) := by decide +kernel
theorem dX6_colony_131 : decode cX6_colony 131 = .ok (.imul, 1) := by decide +kernel
theorem dX6_colony_132 : decode cX6_colony 132 = .ok (.iconst 2, 1) := by decide +kernel
theorem dX6_colony_133 : decode cX6_colony 133 = .ok (.iload_n 1, 1) := by decide +kernel
theorem dX6_colony_134 : decode cX6_colony 134 = .ok (.imul, 1) := by decide +kernel
theorem dX6_colony_135 : decode cX6_colony 135 = .ok (.iadd, 1) := by decide +kernel
theorem dX6_colony_136 : decode cX6_colony 136 = .ok (.iconst 1, 1) := by decide +kernel
theorem dX6_colony_137 : decode cX6_colony 137 = .ok (.iadd, 1) := by decide +kernel
theorem dX6_colony_138 : decode cX6_colony 138 = .ok (.baload, 1) := by decide +kernel
theorem dX6_colony_139 : decode cX6_colony 139 = .ok (.bipush 48, 2) := by decide +kernel
theorem dX6_colony_141 : decode cX6_colony 141 = .ok (.isub, 1) := by decide +kernel
theorem dX6_colony_142 : decode cX6_colony 142 = .ok (.iastore, 1) := by decide +kernel
theorem dX6_colony_143 : decode cX6_colony 143 = .ok (.iinc 1 1, 3) := by decide +kernel
theorem dX6_colony_146 : decode cX6_colony 146 = .ok (.goto (-61), 3) := by decide +kernel
theorem dX6_colony_149 : decode cX6_colony 149 = .ok (.aload_n 0, 1) := by decide +kernel
theorem dX6_colony_150 : decode cX6_colony 150 = .ok (.dup, 1) := by decide +kernel
theorem dX6_colony_151 : decode cX6_colony 151 = .ok (.getfield 100, 3) := by decide +kernel
theorem dX6_colony_154 : decode cX6_colony 154 = .ok (.iconst 1, 1) := by decide +kernel
theorem dX6_colony_155 : decode cX6_colony 155 = .ok (.iadd, 1) := by decide +kernel
theorem dX6_colony_156 : decode cX6_colony 156 = .ok (.putfield 100, 3) := by decide +kernel
theorem dX6_colony_159 : decode cX6_colony 159 = .ok (.aload_n 0, 1) := by decide +kernel
theorem dX6_colony_160 : decode cX6_colony 160 = .ok (.iconst 0, 1) := by decide +kernel
theorem dX6_colony_161 : decode cX6_colony 161 = .ok (.putfield 103, 3) := by decide +kernel
theorem dX6_colony_164 : decode cX6_colony 164 = .ok (.aload_n 0, 1) := by decide +kernel
theorem dX6_colony_165 : decode cX6_colony 165 = .ok (.iconst 0, 1) := by decide +kernel
theorem dX6_colony_166 : decode cX6_colony 166 = .ok (.putfield 106, 3) := by decide +kernel
theorem dX6_colony_169 : decode cX6_colony 169 = .ok (.aload_n 0, 1) := by decide +kernel
theorem dX6_colony_170 : decode cX6_colony 170 = .ok (.iconst 0, 1) := by decide +kernel
theorem dX6_colony_171 : decode cX6_colony 171 = .ok (.putfield 66, 3) := by decide +kernel
theorem dX6_colony_174 : decode cX6_colony 174 = .ok (.aload_n 0, 1) := by decide +kernel
theorem dX6_colony_175 : decode cX6_colony 175 = .ok (.getfield 94, 3) := by decide +kernel
theorem dX6_colony_178 : decode cX6_colony 178 = .ok (.ireturn, 1) := by decide +kernel
set_option maxRecDepth 20000 in
theorem ggX6_isHouse_X6_within : GoodIn wsX6_isHouse wsX6_within := goodIn_r _ [5] (by decide +kernel) (by decide +kernel)
set_option maxRecDepth 20000 in
theorem gX6_isHouse_X6_within : GoodIn wsX6_isHouse (va_wsS RX6 62 yX6_within wsX6_within) := goodIn_app (goodIn_of _ (by decide +kernel)) ggX6_isHouse_X6_within
theorem dX6_isHouse_0 : decode cX6_isHouse 0 = .ok (.iload_n 1, 1) := by decide +kernel
theorem dX6_isHouse_1 : decode cX6_isHouse 1 = .ok (.iconst 0, 1) := by decide +kernel
theorem dX6_isHouse_2 : decode cX6_isHouse 2 = .ok (.aload_n 0, 1) := by decide +kernel
theorem dX6_isHouse_3 : decode cX6_isHouse 3 = .ok (.getfield 94, 3) := by decide +kernel
theorem dX6_isHouse_6 : decode cX6_isHouse 6 = .ok (.iconst 1, 1) := by decide +kernel
theorem dX6_isHouse_7 : decode cX6_isHouse 7 = .ok (.isub, 1) := by decide +kernel
theorem dX6_isHouse_8 : decode cX6_isHouse 8 = .ok (.invokestatic 62, 3) := by decide +kernel
theorem dX6_isHouse_11 : decode cX6_isHouse 11 = .ok (.ireturn, 1) := by decide +kernel
set_option maxRecDepth 20000 in
theorem ggX6_isStroke_X6_within : GoodIn wsX6_isStroke wsX6_within := goodIn_r _ [5] (by decide +kernel) (by decide +kernel)
set_option maxRecDepth 20000 in
theorem gX6_isStroke_X6_within : GoodIn wsX6_isStroke (va_wsS RX6 62 yX6_within wsX6_within) := goodIn_app (goodIn_of _ (by decide +kernel)) ggX6_isStroke_X6_within
theorem dX6_isStroke_0 : decode cX6_isStroke 0 = .ok (.iload_n 1, 1) := by decide +kernel
theorem dX6_isStroke_1 : decode cX6_isStroke 1 = .ok (.iconst 0, 1) := by decide +kernel
theorem dX6_isStroke_2 : decode cX6_isStroke 2 = .ok (.aload_n 0, 1) := by decide +kernel
theorem dX6_isStroke_3 : decode cX6_isStroke 3 = .ok (.getfield 97, 3) := by decide +kernel
theorem dX6_isStroke_6 : decode cX6_isStroke 6 = .ok (.iconst 1, 1) := by decide +kernel
theorem dX6_isStroke_7 : decode cX6_isStroke 7 = .ok (.isub, 1) := by decide +kernel
theorem dX6_isStroke_8 : decode cX6_isStroke 8 = .ok (.invokestatic 62, 3) := by decide +kernel
theorem dX6_isStroke_11 : decode cX6_isStroke 11 = .ok (.ireturn, 1) := by decide +kernel
set_option maxRecDepth 20000 in
theorem ggX6_isHour_X6_within : GoodIn wsX6_isHour wsX6_within := goodIn_r _ [4] (by decide +kernel) (by decide +kernel)
set_option maxRecDepth 20000 in
theorem gX6_isHour_X6_within : GoodIn wsX6_isHour (va_wsS RX6 62 yX6_within wsX6_within) := goodIn_app (goodIn_of _ (by decide +kernel)) ggX6_isHour_X6_within
theorem dX6_isHour_0 : decode cX6_isHour 0 = .ok (.iload_n 0, 1) := by decide +kernel
theorem dX6_isHour_1 : decode cX6_isHour 1 = .ok (.iconst 0, 1) := by decide +kernel
theorem dX6_isHour_2 : decode cX6_isHour 2 = .ok (.bipush 11, 2) := by decide +kernel
theorem dX6_isHour_4 : decode cX6_isHour 4 = .ok (.invokestatic 62, 3) := by decide +kernel
theorem dX6_isHour_7 : decode cX6_isHour 7 = .ok (.ireturn, 1) := by decide +kernel
theorem dX6_tideAt_0 : decode cX6_tideAt 0 = .ok (.iconst 0, 1) := by decide +kernel
theorem dX6_tideAt_1 : decode cX6_tideAt 1 = .ok (.istore_n 2, 1) := by decide +kernel
theorem dX6_tideAt_2 : decode cX6_tideAt 2 = .ok (.iconst 0, 1) := by decide +kernel
theorem dX6_tideAt_3 : decode cX6_tideAt 3 = .ok (.istore_n 3, 1) := by decide +kernel
theorem dX6_tideAt_4 : decode cX6_tideAt 4 = .ok (.iload_n 3, 1) := by decide +kernel
theorem dX6_tideAt_5 : decode cX6_tideAt 5 = .ok (.aload_n 0, 1) := by decide +kernel
theorem dX6_tideAt_6 : decode cX6_tideAt 6 = .ok (.getfield 97, 3) := by decide +kernel
theorem dX6_tideAt_9 : decode cX6_tideAt 9 = .ok (.aload_n 0, 1) := by decide +kernel
theorem dX6_tideAt_10 : decode cX6_tideAt 10 = .ok (.getfield 109, 3) := by decide +kernel
theorem dX6_tideAt_13 : decode cX6_tideAt 13 = .ok (.iadd, 1) := by decide +kernel
theorem dX6_tideAt_14 : decode cX6_tideAt 14 = .ok (.if_icmp .ge 55, 3) := by decide +kernel
theorem dX6_tideAt_17 : decode cX6_tideAt 17 = .ok (.iload_n 1, 1) := by decide +kernel
theorem dX6_tideAt_18 : decode cX6_tideAt 18 = .ok (.aload_n 0, 1) := by decide +kernel
theorem dX6_tideAt_19 : decode cX6_tideAt 19 = .ok (.getfield 16, 3) := by decide +kernel
theorem dX6_tideAt_22 : decode cX6_tideAt 22 = .ok (.iload_n 3, 1) := by decide +kernel
theorem dX6_tideAt_23 : decode cX6_tideAt 23 = .ok (.iaload, 1) := by decide +kernel
theorem dX6_tideAt_24 : decode cX6_tideAt 24 = .ok (.isub, 1) := by decide +kernel
theorem dX6_tideAt_25 : decode cX6_tideAt 25 = .ok (.istore 4, 2) := by decide +kernel
theorem dX6_tideAt_27 : decode cX6_tideAt 27 = .ok (.iload 4, 2) := by decide +kernel
theorem dX6_tideAt_29 : decode cX6_tideAt 29 = .ok (.ifCond .ge 7, 3) := by decide +kernel
theorem dX6_tideAt_32 : decode cX6_tideAt 32 = .ok (.iconst 0, 1) := by decide +kernel
theorem dX6_tideAt_33 : decode cX6_tideAt 33 = .ok (.goto 14, 3) := by decide +kernel
theorem dX6_tideAt_36 : decode cX6_tideAt 36 = .ok (.aload_n 0, 1) := by decide +kernel
theorem dX6_tideAt_37 : decode cX6_tideAt 37 = .ok (.getfield 19, 3) := by decide +kernel
theorem dX6_tideAt_40 : decode cX6_tideAt 40 = .ok (.iload_n 3, 1) := by decide +kernel
theorem dX6_tideAt_41 : decode cX6_tideAt 41 = .ok (.iaload, 1) := by decide +kernel
theorem dX6_tideAt_42 : decode cX6_tideAt 42 = .ok (.iconst 2, 1) := by decide +kernel
theorem dX6_tideAt_43 : decode cX6_tideAt 43 = .ok (.iload 4, 2) := by decide +kernel
theorem dX6_tideAt_45 : decode cX6_tideAt 45 = .ok (.imul, 1) := by decide +kernel
theorem dX6_tideAt_46 : decode cX6_tideAt 46 = .ok (.isub, 1) := by decide +kernel
theorem dX6_tideAt_47 : decode cX6_tideAt 47 = .ok (.istore 5, 2) := by decide +kernel
theorem dX6_tideAt_49 : decode cX6_tideAt 49 = .ok (.iload_n 2, 1) := by decide +kernel
theorem dX6_tideAt_50 : decode cX6_tideAt 50 = .ok (.iload 5, 2) := by decide +kernel
theorem dX6_tideAt_52 : decode cX6_tideAt 52 = .ok (.ifCond .le 8, 3) := by decide +kernel
theorem dX6_tideAt_55 : decode cX6_tideAt 55 = .ok (.iload 5, 2) := by decide +kernel
theorem dX6_tideAt_57 : decode cX6_tideAt 57 = .ok (.goto 4, 3) := by decide +kernel
theorem dX6_tideAt_60 : decode cX6_tideAt 60 = .ok (.iconst 0, 1) := by decide +kernel
theorem dX6_tideAt_61 : decode cX6_tideAt 61 = .ok (.iadd, 1) := by decide +kernel
theorem dX6_tideAt_62 : decode cX6_tideAt 62 = .ok (.istore_n 2, 1) := by decide +kernel
theorem dX6_tideAt_63 : decode cX6_tideAt 63 = .ok (.iinc 3 1, 3) := by decide +kernel
theorem dX6_tideAt_66 : decode cX6_tideAt 66 = .ok (.goto (-62), 3) := by decide +kernel
theorem dX6_tideAt_69 : decode cX6_tideAt 69 = .ok (.iload_n 2, 1) := by decide +kernel
theorem dX6_tideAt_70 : decode cX6_tideAt 70 = .ok (.bipush 20, 2) := by decide +kernel
theorem dX6_tideAt_72 : decode cX6_tideAt 72 = .ok (.if_icmp .le 8, 3) := by decide +kernel
theorem dX6_tideAt_75 : decode cX6_tideAt 75 = .ok (.bipush 20, 2) := by decide +kernel
theorem dX6_tideAt_77 : decode cX6_tideAt 77 = .ok (.goto 4, 3) := by decide +kernel
theorem dX6_tideAt_80 : decode cX6_tideAt 80 = .ok (.iload_n 2, 1) := by decide +kernel
theorem dX6_tideAt_81 : decode cX6_tideAt 81 = .ok (.ireturn, 1) := by decide +kernel
set_option maxRecDepth 20000 in
theorem ggX6_tideBefore_X6_tideAt : GoodIn wsX6_tideBefore wsX6_tideAt := goodIn_r _ [5, 6, 7, 8, 9, 10, 11, 12, 13, 14, 15, 16, 17, 18, 19, 20, 21, 22, 23, 24, 25, 26, 27, 28, 29, 30, 31, 32, 33, 34, 35, 36, 37, 38, 39, 40, 41, 42, 43] (by decide +kernel) (by decide +kernel)
set_option maxRecDepth 20000 in
theorem gX6_tideBefore_X6_tideAt : GoodIn wsX6_tideBefore (wsV RX6 112 RX6 yX6_tideAt wsX6_tideAt) := goodIn_app (goodIn_of _ (by decide +kernel)) ggX6_tideBefore_X6_tideAt
theorem dX6_tideBefore_0 : decode cX6_tideBefore 0 = .ok (.iload_n 1, 1) := by decide +kernel
theorem dX6_tideBefore_1 : decode cX6_tideBefore 1 = .ok (.ifCond .ne 7, 3) := by decide +kernel
theorem dX6_tideBefore_4 : decode cX6_tideBefore 4 = .ok (.iconst 0, 1) := by decide +kernel
theorem dX6_tideBefore_5 : decode cX6_tideBefore 5 = .ok (.goto 10, 3) := by decide +kernel
theorem dX6_tideBefore_8 : decode cX6_tideBefore 8 = .ok (.aload_n 0, 1) := by decide +kernel
theorem dX6_tideBefore_9 : decode cX6_tideBefore 9 = .ok (.iload_n 1, 1) := by decide +kernel
theorem dX6_tideBefore_10 : decode cX6_tideBefore 10 = .ok (.iconst 1, 1) := by decide +kernel
theorem dX6_tideBefore_11 : decode cX6_tideBefore 11 = .ok (.isub, 1) := by decide +kernel
theorem dX6_tideBefore_12 : decode cX6_tideBefore 12 = .ok (.invokevirtual 112, 3) := by decide +kernel
theorem dX6_tideBefore_15 : decode cX6_tideBefore 15 = .ok (.ireturn, 1) := by decide +kernel
theorem dX6_less_0 : decode cX6_less 0 = .ok (.iload_n 0, 1) := by decide +kernel
theorem dX6_less_1 : decode cX6_less 1 = .ok (.iload_n 1, 1) := by decide +kernel
theorem dX6_less_2 : decode cX6_less 2 = .ok (.if_icmp .le 9, 3) := by decide +kernel
theorem dX6_less_5 : decode cX6_less 5 = .ok (.iload_n 0, 1) := by decide +kernel
theorem dX6_less_6 : decode cX6_less 6 = .ok (.iload_n 1, 1) := by decide +kernel
theorem dX6_less_7 : decode cX6_less 7 = .ok (.isub, 1) := by decide +kernel
theorem dX6_less_8 : decode cX6_less 8 = .ok (.goto 4, 3) := by decide +kernel
theorem dX6_less_11 : decode cX6_less 11 = .ok (.iconst 0, 1) := by decide +kernel
theorem dX6_less_12 : decode cX6_less 12 = .ok (.ireturn, 1) := by decide +kernel
set_option maxRecDepth 20000 in
theorem ggX6_mannersAt_X6_tideAt : GoodIn wsX6_mannersAt wsX6_tideAt := goodIn_r _ [7, 8, 9, 10, 11, 19, 20, 21, 22, 23, 24, 25, 26, 27, 28, 29, 30, 31, 32, 33, 34, 35, 36, 37, 38, 39, 40, 41, 42, 43, 44, 45, 46, 47, 48, 49, 50, 51, 52] (by decide +kernel) (by decide +kernel)
set_option maxRecDepth 20000 in
theorem gX6_mannersAt_X6_tideAt : GoodIn wsX6_mannersAt (wsV RX6 112 RX6 yX6_tideAt wsX6_tideAt) := goodIn_app (goodIn_of _ (by decide +kernel)) ggX6_mannersAt_X6_tideAt
set_option maxRecDepth 20000 in
theorem ggX6_mannersAt_X6_less : GoodIn wsX6_mannersAt wsX6_less := goodIn_r _ [14] (by decide +kernel) (by decide +kernel)
set_option maxRecDepth 20000 in
theorem gX6_mannersAt_X6_less : GoodIn wsX6_mannersAt (va_wsS RX6 115 yX6_less wsX6_less) := goodIn_app (goodIn_of _ (by decide +kernel)) ggX6_mannersAt_X6_less
set_option maxRecDepth 20000 in
theorem ggX6_mannersAt_X6_tideBefore : GoodIn wsX6_mannersAt wsX6_tideBefore := goodIn_r _ [18, 3, 4, 5, 6, 7, 8, 9, 10, 11, 19, 20, 21, 22, 23, 24, 25, 26, 27, 28, 29, 30, 31, 32, 33, 34, 35, 36, 37, 38, 39, 40, 41, 42, 43, 44, 45, 46, 47, 48, 49, 50, 51, 52] (by decide +kernel) (by decide +kernel)
set_option maxRecDepth 20000 in
theorem gX6_mannersAt_X6_tideBefore : GoodIn wsX6_mannersAt (wsV RX6 119 RX6 yX6_tideBefore wsX6_tideBefore) := goodIn_app (goodIn_of _ (by decide +kernel)) ggX6_mannersAt_X6_tideBefore
theorem dX6_mannersAt_0 : decode cX6_mannersAt 0 = .ok (.aload_n 0, 1) := by decide +kernel
theorem dX6_mannersAt_1 : decode cX6_mannersAt 1 = .ok (.getfield 13, 3) := by decide +kernel
theorem dX6_mannersAt_4 : decode cX6_mannersAt 4 = .ok (.iload_n 1, 1) := by decide +kernel
theorem dX6_mannersAt_5 : decode cX6_mannersAt 5 = .ok (.iaload, 1) := by decide +kernel
theorem dX6_mannersAt_6 : decode cX6_mannersAt 6 = .ok (.istore_n 3, 1) := by decide +kernel
theorem dX6_mannersAt_7 : decode cX6_mannersAt 7 = .ok (.aload_n 0, 1) := by decide +kernel
theorem dX6_mannersAt_8 : decode cX6_mannersAt 8 = .ok (.getfield 7, 3) := by decide +kernel
theorem dX6_mannersAt_11 : decode cX6_mannersAt 11 = .ok (.iload_n 1, 1) := by decide +kernel
theorem dX6_mannersAt_12 : decode cX6_mannersAt 12 = .ok (.iaload, 1) := by decide +kernel
theorem dX6_mannersAt_13 : decode cX6_mannersAt 13 = .ok (.tableswitch 102 1 4 #[31, 59, 90, 45], 31) := by decide +kernel
theorem dX6_mannersAt_44 : decode cX6_mannersAt 44 = .ok (.aload_n 0, 1) := by decide +kernel
theorem dX6_mannersAt_45 : decode cX6_mannersAt 45 = .ok (.iload_n 2, 1) := by decide +kernel
theorem dX6_mannersAt_46 : decode cX6_mannersAt 46 = .ok (.invokevirtual 112, 3) := by decide +kernel
theorem dX6_mannersAt_49 : decode cX6_mannersAt 49 = .ok (.iload_n 3, 1) := by decide +kernel
theorem dX6_mannersAt_50 : decode cX6_mannersAt 50 = .ok (.iconst 3, 1) := by decide +kernel
theorem dX6_mannersAt_51 : decode cX6_mannersAt 51 = .ok (.invokestatic 115, 3) := by decide +kernel
theorem dX6_mannersAt_54 : decode cX6_mannersAt 54 = .ok (.invokestatic 115, 3) := by decide +kernel
theorem dX6_mannersAt_57 : decode cX6_mannersAt 57 = .ok (.ireturn, 1) := by decide +kernel
theorem dX6_mannersAt_58 : decode cX6_mannersAt 58 = .ok (.aload_n 0, 1) := by decide +kernel
theorem dX6_mannersAt_59 : decode cX6_mannersAt 59 = .ok (.iload_n 2, 1) := by decide +kernel
theorem dX6_mannersAt_60 : decode cX6_mannersAt 60 = .ok (.invokevirtual 119, 3) := by decide +kernel
theorem dX6_mannersAt_63 : decode cX6_mannersAt 63 = .ok (.iload_n 3, 1) := by decide +kernel
theorem dX6_mannersAt_64 : decode cX6_mannersAt 64 = .ok (.iconst 3, 1) := by decide +kernel
theorem dX6_mannersAt_65 : decode cX6_mannersAt 65 = .ok (.invokestatic 115, 3) := by decide +kernel
theorem dX6_mannersAt_68 : decode cX6_mannersAt 68 = .ok (.invokestatic 115, 3) := by decide +kernel
theorem dX6_mannersAt_71 : decode cX6_mannersAt 71 = .ok (.ireturn, 1) := by decide +kernel
theorem dX6_mannersAt_72 : decode cX6_mannersAt 72 = .ok (.aload_n 0, 1) := by decide +kernel
theorem dX6_mannersAt_73 : decode cX6_mannersAt 73 = .ok (.iload_n 2, 1) := by decide +kernel
theorem dX6_mannersAt_74 : decode cX6_mannersAt 74 = .ok (.invokevirtual 119, 3) := by decide +kernel
theorem dX6_mannersAt_77 : decode cX6_mannersAt 77 = .ok (.aload_n 0, 1) := by decide +kernel
theorem dX6_mannersAt_78 : decode cX6_mannersAt 78 = .ok (.iload_n 2, 1) := by decide +kernel
theorem dX6_mannersAt_79 : decode cX6_mannersAt 79 = .ok (.invokevirtual 112, 3) := by decide +kernel
theorem dX6_mannersAt_82 : decode cX6_mannersAt 82 = .ok (.if_icmp .ge 11, 3) := by decide +kernel
theorem dX6_mannersAt_85 : decode cX6_mannersAt 85 = .ok (.aload_n 0, 1) := by decide +kernel
theorem dX6_mannersAt_86 : decode cX6_mannersAt 86 = .ok (.iload_n 2, 1) := by decide +kernel
theorem dX6_mannersAt_87 : decode cX6_mannersAt 87 = .ok (.invokevirtual 119, 3) := by decide +kernel
theorem dX6_mannersAt_90 : decode cX6_mannersAt 90 = .ok (.goto 8, 3) := by decide +kernel
theorem dX6_mannersAt_93 : decode cX6_mannersAt 93 = .ok (.aload_n 0, 1) := by decide +kernel
theorem dX6_mannersAt_94 : decode cX6_mannersAt 94 = .ok (.iload_n 2, 1) := by decide +kernel
theorem dX6_mannersAt_95 : decode cX6_mannersAt 95 = .ok (.invokevirtual 112, 3) := by decide +kernel
theorem dX6_mannersAt_98 : decode cX6_mannersAt 98 = .ok (.iload_n 3, 1) := by decide +kernel
theorem dX6_mannersAt_99 : decode cX6_mannersAt 99 = .ok (.invokestatic 115, 3) := by decide +kernel
theorem dX6_mannersAt_102 : decode cX6_mannersAt 102 = .ok (.ireturn, 1) := by decide +kernel
theorem dX6_mannersAt_103 : decode cX6_mannersAt 103 = .ok (.iload_n 2, 1) := by decide +kernel
theorem dX6_mannersAt_104 : decode cX6_mannersAt 104 = .ok (.iconst 2, 1) := by decide +kernel
theorem dX6_mannersAt_105 : decode cX6_mannersAt 105 = .ok (.irem, 1) := by decide +kernel
theorem dX6_mannersAt_106 : decode cX6_mannersAt 106 = .ok (.ifCond .ne 7, 3) := by decide +kernel
theorem dX6_mannersAt_109 : decode cX6_mannersAt 109 = .ok (.iconst 3, 1) := by decide +kernel
theorem dX6_mannersAt_110 : decode cX6_mannersAt 110 = .ok (.goto 4, 3) := by decide +kernel
theorem dX6_mannersAt_113 : decode cX6_mannersAt 113 = .ok (.iconst 0, 1) := by decide +kernel
theorem dX6_mannersAt_114 : decode cX6_mannersAt 114 = .ok (.ireturn, 1) := by decide +kernel
theorem dX6_mannersAt_115 : decode cX6_mannersAt 115 = .ok (.aload_n 0, 1) := by decide +kernel
theorem dX6_mannersAt_116 : decode cX6_mannersAt 116 = .ok (.iload_n 2, 1) := by decide +kernel
theorem dX6_mannersAt_117 : decode cX6_mannersAt 117 = .ok (.invokevirtual 112, 3) := by decide +kernel
theorem dX6_mannersAt_120 : decode cX6_mannersAt 120 = .ok (.iload_n 3, 1) := by decide +kernel
theorem dX6_mannersAt_121 : decode cX6_mannersAt 121 = .ok (.invokestatic 115, 3) := by decide +kernel
theorem dX6_mannersAt_124 : decode cX6_mannersAt 124 = .ok (.ireturn, 1) := by decide +kernel
set_option maxRecDepth 20000 in
theorem ggX6_howAt_X6_mannersAt : GoodIn wsX6_howAt wsX6_mannersAt := goodIn_r _ [5, 6, 7, 8, 9, 10, 4, 11, 12, 13, 14, 15, 16, 17, 18, 19, 20, 21, 22, 23, 24, 25, 26, 27, 28, 29, 30, 31, 32, 33, 34, 35, 36, 37, 38, 39, 40, 41, 42, 43, 44, 45, 46, 47, 48, 49, 50, 51, 52, 53, 54, 55, 56] (by decide +kernel) (by decide +kernel)
set_option maxRecDepth 20000 in
theorem gX6_howAt_X6_mannersAt : GoodIn wsX6_howAt (wsV RX6 122 RX6 yX6_mannersAt wsX6_mannersAt) := goodIn_app (goodIn_of _ (by decide +kernel)) ggX6_howAt_X6_mannersAt
theorem dX6_howAt_0 : decode cX6_howAt 0 = .ok (.aload_n 0, 1) := by decide +kernel
theorem dX6_howAt_1 : decode cX6_howAt 1 = .ok (.iload_n 1, 1) := by decide +kernel
theorem dX6_howAt_2 : decode cX6_howAt 2 = .ok (.iload_n 2, 1) := by decide +kernel
theorem dX6_howAt_3 : decode cX6_howAt 3 = .ok (.invokevirtual 122, 3) := by decide +kernel
theorem dX6_howAt_6 : decode cX6_howAt 6 = .ok (.istore_n 3, 1) := by decide +kernel
theorem dX6_howAt_7 : decode cX6_howAt 7 = .ok (.iload_n 3, 1) := by decide +kernel
theorem dX6_howAt_8 : decode cX6_howAt 8 = .ok (.ifCond .ne 7, 3) := by decide +kernel
theorem dX6_howAt_11 : decode cX6_howAt 11 = .ok (.iconst 0, 1) := by decide +kernel
theorem dX6_howAt_12 : decode cX6_howAt 12 = .ok (.goto 13, 3) := by decide +kernel
theorem dX6_howAt_15 : decode cX6_howAt 15 = .ok (.iload_n 3, 1) := by decide +kernel
theorem dX6_howAt_16 : decode cX6_howAt 16 = .ok (.iconst 5, 1) := by decide +kernel
theorem dX6_howAt_17 : decode cX6_howAt 17 = .ok (.if_icmp .ge 7, 3) := by decide +kernel
theorem dX6_howAt_20 : decode cX6_howAt 20 = .ok (.iconst 1, 1) := by decide +kernel
theorem dX6_howAt_21 : decode cX6_howAt 21 = .ok (.goto 4, 3) := by decide +kernel
theorem dX6_howAt_24 : decode cX6_howAt 24 = .ok (.iconst 2, 1) := by decide +kernel
theorem dX6_howAt_25 : decode cX6_howAt 25 = .ok (.ireturn, 1) := by decide +kernel
set_option maxRecDepth 20000 in
theorem ggX6_hoursOf_X6_howAt : GoodIn wsX6_hoursOf wsX6_howAt := goodIn_r _ [5, 6, 7, 8, 4, 9, 10, 11, 12, 13, 14, 15, 16, 17, 18, 19, 20, 21, 22, 23, 24, 25, 26, 27, 28, 29, 30, 31, 32, 33, 34, 35, 36, 37, 38, 39, 40, 41, 42, 43, 44, 45, 46, 47, 48, 49, 50, 51, 52, 53, 54, 55, 56, 57, 58, 59, 60] (by decide +kernel) (by decide +kernel)
set_option maxRecDepth 20000 in
theorem gX6_hoursOf_X6_howAt : GoodIn wsX6_hoursOf (wsV RX6 125 RX6 yX6_howAt wsX6_howAt) := goodIn_app (goodIn_of _ (by decide +kernel)) ggX6_hoursOf_X6_howAt
theorem dX6_hoursOf_0 : decode cX6_hoursOf 0 = .ok (.iconst 0, 1) := by decide +kernel
theorem dX6_hoursOf_1 : decode cX6_hoursOf 1 = .ok (.istore_n 3, 1) := by decide +kernel
theorem dX6_hoursOf_2 : decode cX6_hoursOf 2 = .ok (.iconst 0, 1) := by decide +kernel
theorem dX6_hoursOf_3 : decode cX6_hoursOf 3 = .ok (.istore 4, 2) := by decide +kernel
theorem dX6_hoursOf_5 : decode cX6_hoursOf 5 = .ok (.iload 4, 2) := by decide +kernel
theorem dX6_hoursOf_7 : decode cX6_hoursOf 7 = .ok (.bipush 12, 2) := by decide +kernel
theorem dX6_hoursOf_9 : decode cX6_hoursOf 9 = .ok (.if_icmp .ge 28, 3) := by decide +kernel
theorem dX6_hoursOf_12 : decode cX6_hoursOf 12 = .ok (.iload_n 3, 1) := by decide +kernel
theorem dX6_hoursOf_13 : decode cX6_hoursOf 13 = .ok (.aload_n 0, 1) := by decide +kernel
theorem dX6_hoursOf_14 : decode cX6_hoursOf 14 = .ok (.iload_n 1, 1) := by decide +kernel
theorem dX6_hoursOf_15 : decode cX6_hoursOf 15 = .ok (.iload 4, 2) := by decide +kernel
theorem dX6_hoursOf_17 : decode cX6_hoursOf 17 = .ok (.invokevirtual 125, 3) := by decide +kernel
theorem dX6_hoursOf_20 : decode cX6_hoursOf 20 = .ok (.iload_n 2, 1) := by decide +kernel
theorem dX6_hoursOf_21 : decode cX6_hoursOf 21 = .ok (.if_icmp .ne 7, 3) := by decide +kernel
theorem dX6_hoursOf_24 : decode cX6_hoursOf 24 = .ok (.iconst 1, 1) := by decide +kernel
theorem dX6_hoursOf_25 : decode cX6_hoursOf 25 = .ok (.goto 4, 3) := by decide +kernel
theorem dX6_hoursOf_28 : decode cX6_hoursOf 28 = .ok (.iconst 0, 1) := by decide +kernel
theorem dX6_hoursOf_29 : decode cX6_hoursOf 29 = .ok (.iadd, 1) := by decide +kernel
theorem dX6_hoursOf_30 : decode cX6_hoursOf 30 = .ok (.istore_n 3, 1) := by decide +kernel
theorem dX6_hoursOf_31 : decode cX6_hoursOf 31 = .ok (.iinc 4 1, 3) := by decide +kernel
theorem dX6_hoursOf_34 : decode cX6_hoursOf 34 = .ok (.goto (-29), 3) := by decide +kernel
theorem dX6_hoursOf_37 : decode cX6_hoursOf 37 = .ok (.iload_n 3, 1) := by decide +kernel
theorem dX6_hoursOf_38 : decode cX6_hoursOf 38 = .ok (.ireturn, 1) := by decide +kernel
set_option maxRecDepth 20000 in
theorem ggX6_hoursAll_X6_hoursOf : GoodIn wsX6_hoursAll wsX6_hoursOf := goodIn_r _ [6, 7, 8, 9, 5, 10, 11, 12, 13, 14, 15, 16, 17, 18, 19, 20, 21, 22, 23, 24, 25, 26, 27, 28, 29, 30, 31, 32, 33, 34, 35, 36, 37, 38, 39, 40, 41, 42, 43, 44, 45, 46, 47, 48, 49, 50, 51, 52, 53, 54, 55, 56, 57, 58, 59, 60, 61, 62, 63, 64, 65] (by decide +kernel) (by decide +kernel)
set_option maxRecDepth 20000 in
theorem gX6_hoursAll_X6_hoursOf : GoodIn wsX6_hoursAll (wsV RX6 128 RX6 yX6_hoursOf wsX6_hoursOf) := goodIn_app (goodIn_of _ (by decide +kernel)) ggX6_hoursAll_X6_hoursOf
theorem dX6_hoursAll_0 : decode cX6_hoursAll 0 = .ok (.iconst 0, 1) := by decide +kernel
theorem dX6_hoursAll_1 : decode cX6_hoursAll 1 = .ok (.istore_n 2, 1) := by decide +kernel
theorem dX6_hoursAll_2 : decode cX6_hoursAll 2 = .ok (.iconst 0, 1) := by decide +kernel
theorem dX6_hoursAll_3 : decode cX6_hoursAll 3 = .ok (.istore_n 3, 1) := by decide +kernel
theorem dX6_hoursAll_4 : decode cX6_hoursAll 4 = .ok (.iload_n 3, 1) := by decide +kernel
theorem dX6_hoursAll_5 : decode cX6_hoursAll 5 = .ok (.aload_n 0, 1) := by decide +kernel
theorem dX6_hoursAll_6 : decode cX6_hoursAll 6 = .ok (.getfield 94, 3) := by decide +kernel
theorem dX6_hoursAll_9 : decode cX6_hoursAll 9 = .ok (.if_icmp .ge 18, 3) := by decide +kernel
theorem dX6_hoursAll_12 : decode cX6_hoursAll 12 = .ok (.iload_n 2, 1) := by decide +kernel
theorem dX6_hoursAll_13 : decode cX6_hoursAll 13 = .ok (.aload_n 0, 1) := by decide +kernel
theorem dX6_hoursAll_14 : decode cX6_hoursAll 14 = .ok (.iload_n 3, 1) := by decide +kernel
theorem dX6_hoursAll_15 : decode cX6_hoursAll 15 = .ok (.iload_n 1, 1) := by decide +kernel
theorem dX6_hoursAll_16 : decode cX6_hoursAll 16 = .ok (.invokevirtual 128, 3) := by decide +kernel
theorem dX6_hoursAll_19 : decode cX6_hoursAll 19 = .ok (.iadd, 1) := by decide +kernel
theorem dX6_hoursAll_20 : decode cX6_hoursAll 20 = .ok (.istore_n 2, 1) := by decide +kernel
theorem dX6_hoursAll_21 : decode cX6_hoursAll 21 = .ok (.iinc 3 1, 3) := by decide +kernel
theorem dX6_hoursAll_24 : decode cX6_hoursAll 24 = .ok (.goto (-20), 3) := by decide +kernel
theorem dX6_hoursAll_27 : decode cX6_hoursAll 27 = .ok (.iload_n 2, 1) := by decide +kernel
theorem dX6_hoursAll_28 : decode cX6_hoursAll 28 = .ok (.ireturn, 1) := by decide +kernel
set_option maxRecDepth 20000 in
theorem ggX6_greatestHour_X6_mannersAt : GoodIn wsX6_greatestHour wsX6_mannersAt := goodIn_r _ [5, 6, 7, 8, 9, 10, 4, 11, 12, 13, 14, 15, 16, 17, 18, 19, 20, 21, 22, 23, 24, 25, 26, 27, 28, 29, 30, 31, 32, 33, 34, 35, 36, 37, 38, 39, 40, 41, 42, 43, 44, 45, 46, 47, 48, 49, 50, 51, 52, 53, 54, 55, 56] (by decide +kernel) (by decide +kernel)
set_option maxRecDepth 20000 in
theorem gX6_greatestHour_X6_mannersAt : GoodIn wsX6_greatestHour (wsV RX6 122 RX6 yX6_mannersAt wsX6_mannersAt) := goodIn_app (goodIn_of _ (by decide +kernel)) ggX6_greatestHour_X6_mannersAt
theorem dX6_greatestHour_0 : decode cX6_greatestHour 0 = .ok (.iconst 0, 1) := by decide +kernel
theorem dX6_greatestHour_1 : decode cX6_greatestHour 1 = .ok (.istore_n 2, 1) := by decide +kernel
theorem dX6_greatestHour_2 : decode cX6_greatestHour 2 = .ok (.iconst 1, 1) := by decide +kernel
theorem dX6_greatestHour_3 : decode cX6_greatestHour 3 = .ok (.istore_n 3, 1) := by decide +kernel
theorem dX6_greatestHour_4 : decode cX6_greatestHour 4 = .ok (.iload_n 3, 1) := by decide +kernel
theorem dX6_greatestHour_5 : decode cX6_greatestHour 5 = .ok (.bipush 12, 2) := by decide +kernel
theorem dX6_greatestHour_7 : decode cX6_greatestHour 7 = .ok (.if_icmp .ge 30, 3) := by decide +kernel
theorem dX6_greatestHour_10 : decode cX6_greatestHour 10 = .ok (.aload_n 0, 1) := by decide +kernel
theorem dX6_greatestHour_11 : decode cX6_greatestHour 11 = .ok (.iload_n 1, 1) := by decide +kernel
theorem dX6_greatestHour_12 : decode cX6_greatestHour 12 = .ok (.iload_n 3, 1) := by decide +kernel
theorem dX6_greatestHour_13 : decode cX6_greatestHour 13 = .ok (.invokevirtual 122, 3) := by decide +kernel
theorem dX6_greatestHour_16 : decode cX6_greatestHour 16 = .ok (.aload_n 0, 1) := by decide +kernel
theorem dX6_greatestHour_17 : decode cX6_greatestHour 17 = .ok (.iload_n 1, 1) := by decide +kernel
theorem dX6_greatestHour_18 : decode cX6_greatestHour 18 = .ok (.iload_n 2, 1) := by decide +kernel
theorem dX6_greatestHour_19 : decode cX6_greatestHour 19 = .ok (.invokevirtual 122, 3) := by decide +kernel
theorem dX6_greatestHour_22 : decode cX6_greatestHour 22 = .ok (.if_icmp .le 7, 3) := by decide +kernel
theorem dX6_greatestHour_25 : decode cX6_greatestHour 25 = .ok (.iload_n 3, 1) := by decide +kernel
theorem dX6_greatestHour_26 : decode cX6_greatestHour 26 = .ok (.goto 4, 3) := by decide +kernel
theorem dX6_greatestHour_29 : decode cX6_greatestHour 29 = .ok (.iload_n 2, 1) := by decide +kernel
theorem dX6_greatestHour_30 : decode cX6_greatestHour 30 = .ok (.istore_n 2, 1) := by decide +kernel
theorem dX6_greatestHour_31 : decode cX6_greatestHour 31 = .ok (.iinc 3 1, 3) := by decide +kernel
theorem dX6_greatestHour_34 : decode cX6_greatestHour 34 = .ok (.goto (-30), 3) := by decide +kernel
theorem dX6_greatestHour_37 : decode cX6_greatestHour 37 = .ok (.iload_n 2, 1) := by decide +kernel
theorem dX6_greatestHour_38 : decode cX6_greatestHour 38 = .ok (.ireturn, 1) := by decide +kernel
set_option maxRecDepth 20000 in
theorem ggX6_houseNow_X6_hoursOf : GoodIn wsX6_houseNow wsX6_hoursOf := goodIn_r _ [7, 8, 9, 10, 6, 11, 12, 13, 14, 15, 2, 1, 16, 17, 18, 19, 20, 21, 22, 23, 24, 25, 26, 27, 28, 29, 30, 35, 36, 37, 38, 39, 40, 41, 42, 43, 44, 45, 46, 47, 48, 49, 50, 51, 52, 53, 54, 55, 56, 57, 58, 59, 60, 61, 62, 63, 64, 65, 66, 67, 68] (by decide +kernel) (by decide +kernel)
set_option maxRecDepth 20000 in
theorem gX6_houseNow_X6_hoursOf : GoodIn wsX6_houseNow (wsV RX6 128 RX6 yX6_hoursOf wsX6_hoursOf) := goodIn_app (goodIn_of _ (by decide +kernel)) ggX6_houseNow_X6_hoursOf
set_option maxRecDepth 20000 in
theorem ggX6_houseNow_X6_greatestHour : GoodIn wsX6_houseNow wsX6_greatestHour := goodIn_r _ [34, 12, 13, 14, 6, 15, 2, 1, 16, 17, 18, 19, 20, 21, 22, 23, 24, 25, 26, 27, 28, 29, 30, 35, 36, 37, 38, 39, 40, 41, 42, 43, 44, 45, 46, 47, 48, 49, 50, 51, 52, 53, 54, 55, 56, 57, 58, 59, 60, 61, 62, 63, 64, 65, 66, 67, 68] (by decide +kernel) (by decide +kernel)
set_option maxRecDepth 20000 in
theorem gX6_houseNow_X6_greatestHour : GoodIn wsX6_houseNow (wsV RX6 131 RX6 yX6_greatestHour wsX6_greatestHour) := goodIn_app (goodIn_of _ (by decide +kernel)) ggX6_houseNow_X6_greatestHour
set_option maxRecDepth 20000 in
theorem ggX6_houseNow_X6_mannersAt : GoodIn wsX6_houseNow wsX6_mannersAt := goodIn_r _ [15, 2, 1, 16, 17, 18, 6, 19, 20, 21, 22, 23, 24, 25, 26, 27, 28, 29, 30, 35, 36, 37, 38, 39, 40, 41, 42, 43, 44, 45, 46, 47, 48, 49, 50, 51, 52, 53, 54, 55, 56, 57, 58, 59, 60, 61, 62, 63, 64, 65, 66, 67, 68] (by decide +kernel) (by decide +kernel)
set_option maxRecDepth 20000 in
theorem gX6_houseNow_X6_mannersAt : GoodIn wsX6_houseNow (wsV RX6 122 RX6 yX6_mannersAt wsX6_mannersAt) := goodIn_app (goodIn_of _ (by decide +kernel)) ggX6_houseNow_X6_mannersAt
theorem dX6_houseNow_0 : decode cX6_houseNow 0 = .ok (.iload_n 2, 1) := by decide +kernel
theorem dX6_houseNow_1 : decode cX6_houseNow 1 = .ok (.tableswitch 73 0 4 #[35, 42, 49, 56, 67], 35) := by decide +kernel
theorem dX6_houseNow_36 : decode cX6_houseNow 36 = .ok (.aload_n 0, 1) := by decide +kernel
theorem dX6_houseNow_37 : decode cX6_houseNow 37 = .ok (.getfield 7, 3) := by decide +kernel
theorem dX6_houseNow_40 : decode cX6_houseNow 40 = .ok (.iload_n 1, 1) := by decide +kernel
theorem dX6_houseNow_41 : decode cX6_houseNow 41 = .ok (.iaload, 1) := by decide +kernel
theorem dX6_houseNow_42 : decode cX6_houseNow 42 = .ok (.ireturn, 1) := by decide +kernel
theorem dX6_houseNow_43 : decode cX6_houseNow 43 = .ok (.aload_n 0, 1) := by decide +kernel
theorem dX6_houseNow_44 : decode cX6_houseNow 44 = .ok (.getfield 13, 3) := by decide +kernel
theorem dX6_houseNow_47 : decode cX6_houseNow 47 = .ok (.iload_n 1, 1) := by decide +kernel
theorem dX6_houseNow_48 : decode cX6_houseNow 48 = .ok (.iaload, 1) := by decide +kernel
theorem dX6_houseNow_49 : decode cX6_houseNow 49 = .ok (.ireturn, 1) := by decide +kernel
theorem dX6_houseNow_50 : decode cX6_houseNow 50 = .ok (.aload_n 0, 1) := by decide +kernel
theorem dX6_houseNow_51 : decode cX6_houseNow 51 = .ok (.iload_n 1, 1) := by decide +kernel
theorem dX6_houseNow_52 : decode cX6_houseNow 52 = .ok (.iconst 0, 1) := by decide +kernel
theorem dX6_houseNow_53 : decode cX6_houseNow 53 = .ok (.invokevirtual 128, 3) := by decide +kernel
theorem dX6_houseNow_56 : decode cX6_houseNow 56 = .ok (.ireturn, 1) := by decide +kernel
theorem dX6_houseNow_57 : decode cX6_houseNow 57 = .ok (.aload_n 0, 1) := by decide +kernel
theorem dX6_houseNow_58 : decode cX6_houseNow 58 = .ok (.iload_n 1, 1) := by decide +kernel
theorem dX6_houseNow_59 : decode cX6_houseNow 59 = .ok (.aload_n 0, 1) := by decide +kernel
theorem dX6_houseNow_60 : decode cX6_houseNow 60 = .ok (.iload_n 1, 1) := by decide +kernel
theorem dX6_houseNow_61 : decode cX6_houseNow 61 = .ok (.invokevirtual 131, 3) := by decide +kernel
theorem dX6_houseNow_64 : decode cX6_houseNow 64 = .ok (.invokevirtual 122, 3) := by decide +kernel
theorem dX6_houseNow_67 : decode cX6_houseNow 67 = .ok (.ireturn, 1) := by decide +kernel
theorem dX6_houseNow_68 : decode cX6_houseNow 68 = .ok (.aload_n 0, 1) := by decide +kernel
theorem dX6_houseNow_69 : decode cX6_houseNow 69 = .ok (.iload_n 1, 1) := by decide +kernel
theorem dX6_houseNow_70 : decode cX6_houseNow 70 = .ok (.invokevirtual 131, 3) := by decide +kernel
theorem dX6_houseNow_73 : decode cX6_houseNow 73 = .ok (.ireturn, 1) := by decide +kernel
theorem dX6_houseNow_74 : decode cX6_houseNow 74 = .ok (.aload_n 0, 1) := by decide +kernel
theorem dX6_houseNow_75 : decode cX6_houseNow 75 = .ok (.iload_n 1, 1) := by decide +kernel
theorem dX6_houseNow_76 : decode cX6_houseNow 76 = .ok (.iload_n 2, 1) := by decide +kernel
theorem dX6_houseNow_77 : decode cX6_houseNow 77 = .ok (.bipush 10, 2) := by decide +kernel
theorem dX6_houseNow_79 : decode cX6_houseNow 79 = .ok (.isub, 1) := by decide +kernel
theorem dX6_houseNow_80 : decode cX6_houseNow 80 = .ok (.invokevirtual 122, 3) := by decide +kernel
theorem dX6_houseNow_83 : decode cX6_houseNow 83 = .ok (.ireturn, 1) := by decide +kernel
set_option maxRecDepth 20000 in
theorem ggX6_about_X6_isHouse : GoodIn wsX6_about wsX6_isHouse := goodIn_r _ [5, 6, 7, 8, 4, 9, 47, 48, 49, 50, 51, 52, 53, 54, 55, 56, 57, 58, 59, 60, 61, 62, 63, 64, 65, 66, 67, 68, 69, 70, 71, 72, 73, 74, 75, 76, 77, 78, 79, 80] (by decide +kernel) (by decide +kernel)
set_option maxRecDepth 20000 in
theorem gX6_about_X6_isHouse : GoodIn wsX6_about (wsV RX6 134 RX6 yX6_isHouse wsX6_isHouse) := goodIn_app (goodIn_of _ (by decide +kernel)) ggX6_about_X6_isHouse
set_option maxRecDepth 20000 in
theorem ggX6_about_X6_within : GoodIn wsX6_about wsX6_within := goodIn_r _ [9] (by decide +kernel) (by decide +kernel)
set_option maxRecDepth 20000 in
theorem gX6_about_X6_within : GoodIn wsX6_about (va_wsS RX6 62 yX6_within wsX6_within) := goodIn_app (goodIn_of _ (by decide +kernel)) ggX6_about_X6_within
set_option maxRecDepth 20000 in
theorem ggX6_about_X6_houseNow : GoodIn wsX6_about wsX6_houseNow := goodIn_r _ [13, 14, 15, 16, 17, 18, 4, 19, 20, 21, 22, 23, 24, 25, 26, 27, 28, 29, 30, 31, 32, 33, 34, 35, 36, 37, 38, 39, 40, 41, 42, 43, 44, 45, 46, 47, 48, 49, 50, 51, 52, 53, 54, 55, 56, 57, 58, 59, 60, 61, 62, 63, 64, 65, 66, 67, 68, 69, 70, 71, 72, 73, 74, 75, 76, 77, 78, 79, 80] (by decide +kernel) (by decide +kernel)
set_option maxRecDepth 20000 in
theorem gX6_about_X6_houseNow : GoodIn wsX6_about (wsV RX6 138 RX6 yX6_houseNow wsX6_houseNow) := goodIn_app (goodIn_of _ (by decide +kernel)) ggX6_about_X6_houseNow
theorem dX6_about_0 : decode cX6_about 0 = .ok (.aload_n 0, 1) := by decide +kernel
theorem dX6_about_1 : decode cX6_about 1 = .ok (.iload_n 1, 1) := by decide +kernel
theorem dX6_about_2 : decode cX6_about 2 = .ok (.invokevirtual 134, 3) := by decide +kernel
theorem dX6_about_5 : decode cX6_about 5 = .ok (.ifCond .ne 6, 3) := by decide +kernel
theorem dX6_about_8 : decode cX6_about 8 = .ok (.bipush (-101), 2) := by decide +kernel
theorem dX6_about_10 : decode cX6_about 10 = .ok (.ireturn, 1) := by decide +kernel
theorem dX6_about_11 : decode cX6_about 11 = .ok (.iload_n 2, 1) := by decide +kernel
theorem dX6_about_12 : decode cX6_about 12 = .ok (.iconst 0, 1) := by decide +kernel
theorem dX6_about_13 : decode cX6_about 13 = .ok (.iconst 4, 1) := by decide +kernel
theorem dX6_about_14 : decode cX6_about 14 = .ok (.invokestatic 62, 3) := by decide +kernel
theorem dX6_about_17 : decode cX6_about 17 = .ok (.ifCond .ne 14, 3) := by decide +kernel
theorem dX6_about_20 : decode cX6_about 20 = .ok (.iload_n 2, 1) := by decide +kernel
theorem dX6_about_21 : decode cX6_about 21 = .ok (.bipush 10, 2) := by decide +kernel
theorem dX6_about_23 : decode cX6_about 23 = .ok (.bipush 21, 2) := by decide +kernel
theorem dX6_about_25 : decode cX6_about 25 = .ok (.invokestatic 62, 3) := by decide +kernel
theorem dX6_about_28 : decode cX6_about 28 = .ok (.ifCond .eq 12, 3) := by decide +kernel
theorem dX6_about_31 : decode cX6_about 31 = .ok (.aload_n 0, 1) := by decide +kernel
theorem dX6_about_32 : decode cX6_about 32 = .ok (.iload_n 1, 1) := by decide +kernel
theorem dX6_about_33 : decode cX6_about 33 = .ok (.iload_n 2, 1) := by decide +kernel
theorem dX6_about_34 : decode cX6_about 34 = .ok (.invokevirtual 138, 3) := by decide +kernel
theorem dX6_about_37 : decode cX6_about 37 = .ok (.goto 5, 3) := by decide +kernel
theorem dX6_about_40 : decode cX6_about 40 = .ok (.bipush (-102), 2) := by decide +kernel
theorem dX6_about_42 : decode cX6_about 42 = .ok (.ireturn, 1) := by decide +kernel
set_option maxRecDepth 20000 in
theorem ggX6_as_X6_isHouse : GoodIn wsX6_as wsX6_isHouse := goodIn_r _ [6, 7, 8, 9, 5, 10, 11, 12, 13, 14, 15, 16, 17, 18, 19, 20, 21, 22, 23, 24, 25, 26, 27, 28, 29, 30, 31, 32, 33, 34, 35, 36, 37, 38, 39, 40, 41, 42, 43, 44] (by decide +kernel) (by decide +kernel)
set_option maxRecDepth 20000 in
theorem gX6_as_X6_isHouse : GoodIn wsX6_as (wsV RX6 134 RX6 yX6_isHouse wsX6_isHouse) := goodIn_app (goodIn_of _ (by decide +kernel)) ggX6_as_X6_isHouse
set_option maxRecDepth 20000 in
theorem ggX6_as_X6_within : GoodIn wsX6_as wsX6_within := goodIn_r _ [10] (by decide +kernel) (by decide +kernel)
set_option maxRecDepth 20000 in
theorem gX6_as_X6_within : GoodIn wsX6_as (va_wsS RX6 62 yX6_within wsX6_within) := goodIn_app (goodIn_of _ (by decide +kernel)) ggX6_as_X6_within
theorem dX6_as_0 : decode cX6_as 0 = .ok (.aload_n 0, 1) := by decide +kernel
theorem dX6_as_1 : decode cX6_as 1 = .ok (.iload_n 1, 1) := by decide +kernel
theorem dX6_as_2 : decode cX6_as 2 = .ok (.invokevirtual 134, 3) := by decide +kernel
theorem dX6_as_5 : decode cX6_as 5 = .ok (.ifCond .ne 6, 3) := by decide +kernel
theorem dX6_as_8 : decode cX6_as 8 = .ok (.bipush (-101), 2) := by decide +kernel
theorem dX6_as_10 : decode cX6_as 10 = .ok (.ireturn, 1) := by decide +kernel
theorem dX6_as_11 : decode cX6_as 11 = .ok (.iload_n 2, 1) := by decide +kernel
theorem dX6_as_12 : decode cX6_as 12 = .ok (.iconst 0, 1) := by decide +kernel
theorem dX6_as_13 : decode cX6_as 13 = .ok (.iconst 4, 1) := by decide +kernel
theorem dX6_as_14 : decode cX6_as 14 = .ok (.invokestatic 62, 3) := by decide +kernel
theorem dX6_as_17 : decode cX6_as 17 = .ok (.ifCond .ne 6, 3) := by decide +kernel
theorem dX6_as_20 : decode cX6_as 20 = .ok (.bipush (-102), 2) := by decide +kernel
theorem dX6_as_22 : decode cX6_as 22 = .ok (.ireturn, 1) := by decide +kernel
theorem dX6_as_23 : decode cX6_as 23 = .ok (.aload_n 0, 1) := by decide +kernel
theorem dX6_as_24 : decode cX6_as 24 = .ok (.getfield 7, 3) := by decide +kernel
theorem dX6_as_27 : decode cX6_as 27 = .ok (.iload_n 1, 1) := by decide +kernel
theorem dX6_as_28 : decode cX6_as 28 = .ok (.iaload, 1) := by decide +kernel
theorem dX6_as_29 : decode cX6_as 29 = .ok (.istore_n 3, 1) := by decide +kernel
theorem dX6_as_30 : decode cX6_as 30 = .ok (.iload_n 2, 1) := by decide +kernel
theorem dX6_as_31 : decode cX6_as 31 = .ok (.ifCond .eq 18, 3) := by decide +kernel
theorem dX6_as_34 : decode cX6_as 34 = .ok (.iload_n 3, 1) := by decide +kernel
theorem dX6_as_35 : decode cX6_as 35 = .ok (.iload_n 2, 1) := by decide +kernel
theorem dX6_as_36 : decode cX6_as 36 = .ok (.if_icmp .eq 13, 3) := by decide +kernel
theorem dX6_as_39 : decode cX6_as 39 = .ok (.iload_n 2, 1) := by decide +kernel
theorem dX6_as_40 : decode cX6_as 40 = .ok (.iconst 1, 1) := by decide +kernel
theorem dX6_as_41 : decode cX6_as 41 = .ok (.if_icmp .ne 12, 3) := by decide +kernel
theorem dX6_as_44 : decode cX6_as 44 = .ok (.iload_n 3, 1) := by decide +kernel
theorem dX6_as_45 : decode cX6_as 45 = .ok (.iconst 4, 1) := by decide +kernel
theorem dX6_as_46 : decode cX6_as 46 = .ok (.if_icmp .ne 7, 3) := by decide +kernel
theorem dX6_as_49 : decode cX6_as 49 = .ok (.iload_n 1, 1) := by decide +kernel
theorem dX6_as_50 : decode cX6_as 50 = .ok (.goto 4, 3) := by decide +kernel
theorem dX6_as_53 : decode cX6_as 53 = .ok (.iconst (-1), 1) := by decide +kernel
theorem dX6_as_54 : decode cX6_as 54 = .ok (.ireturn, 1) := by decide +kernel
set_option maxRecDepth 20000 in
theorem ggX6_raise_X6_isHouse : GoodIn wsX6_raise wsX6_isHouse := goodIn_r _ [7, 8, 9, 10, 6, 11, 12, 13, 14, 15, 16, 17, 18, 19, 20, 21, 22, 23, 24, 25, 26, 27, 28, 29, 30, 31, 32, 33, 34, 35, 36, 37, 38, 39, 40, 41, 42, 43, 44, 45] (by decide +kernel) (by decide +kernel)
set_option maxRecDepth 20000 in
theorem gX6_raise_X6_isHouse : GoodIn wsX6_raise (wsV RX6 134 RX6 yX6_isHouse wsX6_isHouse) := goodIn_app (goodIn_of _ (by decide +kernel)) ggX6_raise_X6_isHouse
set_option maxRecDepth 20000 in
theorem ggX6_raise_X6_within : GoodIn wsX6_raise wsX6_within := goodIn_r _ [11] (by decide +kernel) (by decide +kernel)
set_option maxRecDepth 20000 in
theorem gX6_raise_X6_within : GoodIn wsX6_raise (va_wsS RX6 62 yX6_within wsX6_within) := goodIn_app (goodIn_of _ (by decide +kernel)) ggX6_raise_X6_within
theorem dX6_raise_0 : decode cX6_raise 0 = .ok (.aload_n 0, 1) := by decide +kernel
theorem dX6_raise_1 : decode cX6_raise 1 = .ok (.iload_n 1, 1) := by decide +kernel
theorem dX6_raise_2 : decode cX6_raise 2 = .ok (.invokevirtual 134, 3) := by decide +kernel
theorem dX6_raise_5 : decode cX6_raise 5 = .ok (.ifCond .ne 6, 3) := by decide +kernel
theorem dX6_raise_8 : decode cX6_raise 8 = .ok (.bipush (-101), 2) := by decide +kernel
theorem dX6_raise_10 : decode cX6_raise 10 = .ok (.ireturn, 1) := by decide +kernel
theorem dX6_raise_11 : decode cX6_raise 11 = .ok (.iload_n 2, 1) := by decide +kernel
theorem dX6_raise_12 : decode cX6_raise 12 = .ok (.iconst 0, 1) := by decide +kernel
theorem dX6_raise_13 : decode cX6_raise 13 = .ok (.bipush 9, 2) := by decide +kernel
theorem dX6_raise_15 : decode cX6_raise 15 = .ok (.invokestatic 62, 3) := by decide +kernel
theorem dX6_raise_18 : decode cX6_raise 18 = .ok (.ifCond .ne 6, 3) := by decide +kernel
theorem dX6_raise_21 : decode cX6_raise 21 = .ok (.bipush (-102), 2) := by decide +kernel
theorem dX6_raise_23 : decode cX6_raise 23 = .ok (.ireturn, 1) := by decide +kernel
theorem dX6_raise_24 : decode cX6_raise 24 = .ok (.aload_n 0, 1) := by decide +kernel
theorem dX6_raise_25 : decode cX6_raise 25 = .ok (.getfield 13, 3) := by decide +kernel
theorem dX6_raise_28 : decode cX6_raise 28 = .ok (.iload_n 1, 1) := by decide +kernel
theorem dX6_raise_29 : decode cX6_raise 29 = .ok (.iaload, 1) := by decide +kernel
theorem dX6_raise_30 : decode cX6_raise 30 = .ok (.istore_n 3, 1) := by decide +kernel
theorem dX6_raise_31 : decode cX6_raise 31 = .ok (.aload_n 0, 1) := by decide +kernel
theorem dX6_raise_32 : decode cX6_raise 32 = .ok (.getfield 13, 3) := by decide +kernel
theorem dX6_raise_35 : decode cX6_raise 35 = .ok (.iload_n 1, 1) := by decide +kernel
theorem dX6_raise_36 : decode cX6_raise 36 = .ok (.iload_n 2, 1) := by decide +kernel
theorem dX6_raise_37 : decode cX6_raise 37 = .ok (.iastore, 1) := by decide +kernel
theorem dX6_raise_38 : decode cX6_raise 38 = .ok (.aload_n 0, 1) := by decide +kernel
theorem dX6_raise_39 : decode cX6_raise 39 = .ok (.dup, 1) := by decide +kernel
theorem dX6_raise_40 : decode cX6_raise 40 = .ok (.getfield 103, 3) := by decide +kernel
theorem dX6_raise_43 : decode cX6_raise 43 = .ok (.iconst 1, 1) := by decide +kernel
theorem dX6_raise_44 : decode cX6_raise 44 = .ok (.iadd, 1) := by decide +kernel
theorem dX6_raise_45 : decode cX6_raise 45 = .ok (.putfield 103, 3) := by decide +kernel
theorem dX6_raise_48 : decode cX6_raise 48 = .ok (.iload_n 3, 1) := by decide +kernel
theorem dX6_raise_49 : decode cX6_raise 49 = .ok (.ireturn, 1) := by decide +kernel
set_option maxRecDepth 20000 in
theorem ggX6_tide_X6_isHour : GoodIn wsX6_tide wsX6_isHour := goodIn_r _ [5, 6, 7, 4, 8] (by decide +kernel) (by decide +kernel)
set_option maxRecDepth 20000 in
theorem gX6_tide_X6_isHour : GoodIn wsX6_tide (va_wsS RX6 141 yX6_isHour wsX6_isHour) := goodIn_app (goodIn_of _ (by decide +kernel)) ggX6_tide_X6_isHour
set_option maxRecDepth 20000 in
theorem ggX6_tide_X6_tideAt : GoodIn wsX6_tide wsX6_tideAt := goodIn_r _ [12, 13, 14, 15, 16, 17, 18, 19, 20, 21, 22, 23, 24, 25, 26, 27, 28, 29, 30, 31, 32, 33, 34, 35, 36, 37, 38, 39, 40, 41, 42, 43, 44, 45, 46, 47, 48, 49, 50] (by decide +kernel) (by decide +kernel)
set_option maxRecDepth 20000 in
theorem gX6_tide_X6_tideAt : GoodIn wsX6_tide (wsV RX6 112 RX6 yX6_tideAt wsX6_tideAt) := goodIn_app (goodIn_of _ (by decide +kernel)) ggX6_tide_X6_tideAt
theorem dX6_tide_0 : decode cX6_tide 0 = .ok (.iload_n 1, 1) := by decide +kernel
theorem dX6_tide_1 : decode cX6_tide 1 = .ok (.invokestatic 141, 3) := by decide +kernel
theorem dX6_tide_4 : decode cX6_tide 4 = .ok (.ifCond .ne 6, 3) := by decide +kernel
theorem dX6_tide_7 : decode cX6_tide 7 = .ok (.bipush (-102), 2) := by decide +kernel
theorem dX6_tide_9 : decode cX6_tide 9 = .ok (.ireturn, 1) := by decide +kernel
theorem dX6_tide_10 : decode cX6_tide 10 = .ok (.aload_n 0, 1) := by decide +kernel
theorem dX6_tide_11 : decode cX6_tide 11 = .ok (.getfield 94, 3) := by decide +kernel
theorem dX6_tide_14 : decode cX6_tide 14 = .ok (.ifCond .ne 8, 3) := by decide +kernel
theorem dX6_tide_17 : decode cX6_tide 17 = .ok (.bipush (-103), 2) := by decide +kernel
theorem dX6_tide_19 : decode cX6_tide 19 = .ok (.goto 8, 3) := by decide +kernel
theorem dX6_tide_22 : decode cX6_tide 22 = .ok (.aload_n 0, 1) := by decide +kernel
theorem dX6_tide_23 : decode cX6_tide 23 = .ok (.iload_n 1, 1) := by decide +kernel
theorem dX6_tide_24 : decode cX6_tide 24 = .ok (.invokevirtual 112, 3) := by decide +kernel
theorem dX6_tide_27 : decode cX6_tide 27 = .ok (.ireturn, 1) := by decide +kernel
set_option maxRecDepth 20000 in
theorem ggX6_strike_X6_within : GoodIn wsX6_strike wsX6_within := goodIn_r _ [9] (by decide +kernel) (by decide +kernel)
set_option maxRecDepth 20000 in
theorem gX6_strike_X6_within : GoodIn wsX6_strike (va_wsS RX6 62 yX6_within wsX6_within) := goodIn_app (goodIn_of _ (by decide +kernel)) ggX6_strike_X6_within
theorem dX6_strike_0 : decode cX6_strike 0 = .ok (.iload_n 1, 1) := by decide +kernel
theorem dX6_strike_1 : decode cX6_strike 1 = .ok (.iconst 0, 1) := by decide +kernel
theorem dX6_strike_2 : decode cX6_strike 2 = .ok (.bipush 9, 2) := by decide +kernel
theorem dX6_strike_4 : decode cX6_strike 4 = .ok (.invokestatic 62, 3) := by decide +kernel
theorem dX6_strike_7 : decode cX6_strike 7 = .ok (.ifCond .eq 13, 3) := by decide +kernel
theorem dX6_strike_10 : decode cX6_strike 10 = .ok (.iload_n 2, 1) := by decide +kernel
theorem dX6_strike_11 : decode cX6_strike 11 = .ok (.iconst 1, 1) := by decide +kernel
theorem dX6_strike_12 : decode cX6_strike 12 = .ok (.bipush 9, 2) := by decide +kernel
theorem dX6_strike_14 : decode cX6_strike 14 = .ok (.invokestatic 62, 3) := by decide +kernel
theorem dX6_strike_17 : decode cX6_strike 17 = .ok (.ifCond .ne 6, 3) := by decide +kernel
theorem dX6_strike_20 : decode cX6_strike 20 = .ok (.bipush (-102), 2) := by decide +kernel
theorem dX6_strike_22 : decode cX6_strike 22 = .ok (.ireturn, 1) := by decide +kernel
theorem dX6_strike_23 : decode cX6_strike 23 = .ok (.aload_n 0, 1) := by decide +kernel
theorem dX6_strike_24 : decode cX6_strike 24 = .ok (.getfield 94, 3) := by decide +kernel
theorem dX6_strike_27 : decode cX6_strike 27 = .ok (.ifCond .ne 6, 3) := by decide +kernel
theorem dX6_strike_30 : decode cX6_strike 30 = .ok (.bipush (-103), 2) := by decide +kernel
theorem dX6_strike_32 : decode cX6_strike 32 = .ok (.ireturn, 1) := by decide +kernel
theorem dX6_strike_33 : decode cX6_strike 33 = .ok (.aload_n 0, 1) := by decide +kernel
theorem dX6_strike_34 : decode cX6_strike 34 = .ok (.getfield 97, 3) := by decide +kernel
theorem dX6_strike_37 : decode cX6_strike 37 = .ok (.bipush 6, 2) := by decide +kernel
theorem dX6_strike_39 : decode cX6_strike 39 = .ok (.if_icmp .ne 6, 3) := by decide +kernel
theorem dX6_strike_42 : decode cX6_strike 42 = .ok (.bipush (-104), 2) := by decide +kernel
theorem dX6_strike_44 : decode cX6_strike 44 = .ok (.ireturn, 1) := by decide +kernel
theorem dX6_strike_45 : decode cX6_strike 45 = .ok (.aload_n 0, 1) := by decide +kernel
theorem dX6_strike_46 : decode cX6_strike 46 = .ok (.getfield 16, 3) := by decide +kernel
theorem dX6_strike_49 : decode cX6_strike 49 = .ok (.aload_n 0, 1) := by decide +kernel
theorem dX6_strike_50 : decode cX6_strike 50 = .ok (.getfield 97, 3) := by decide +kernel
theorem dX6_strike_53 : decode cX6_strike 53 = .ok (.iload_n 1, 1) := by decide +kernel
theorem dX6_strike_54 : decode cX6_strike 54 = .ok (.iastore, 1) := by decide +kernel
theorem dX6_strike_55 : decode cX6_strike 55 = .ok (.aload_n 0, 1) := by decide +kernel
theorem dX6_strike_56 : decode cX6_strike 56 = .ok (.getfield 19, 3) := by decide +kernel
theorem dX6_strike_59 : decode cX6_strike 59 = .ok (.aload_n 0, 1) := by decide +kernel
theorem dX6_strike_60 : decode cX6_strike 60 = .ok (.getfield 97, 3) := by decide +kernel
theorem dX6_strike_63 : decode cX6_strike 63 = .ok (.iload_n 2, 1) := by decide +kernel
theorem dX6_strike_64 : decode cX6_strike 64 = .ok (.iastore, 1) := by decide +kernel
theorem dX6_strike_65 : decode cX6_strike 65 = .ok (.aload_n 0, 1) := by decide +kernel
