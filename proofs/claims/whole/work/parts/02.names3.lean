theorem dX6_strike_66 : decode cX6_strike 66 = .ok (.dup, 1) := by decide +kernel
theorem dX6_strike_67 : decode cX6_strike 67 = .ok (.getfield 97, 3) := by decide +kernel
theorem dX6_strike_70 : decode cX6_strike 70 = .ok (.iconst 1, 1) := by decide +kernel
theorem dX6_strike_71 : decode cX6_strike 71 = .ok (.iadd, 1) := by decide +kernel
theorem dX6_strike_72 : decode cX6_strike 72 = .ok (.putfield 97, 3) := by decide +kernel
theorem dX6_strike_75 : decode cX6_strike 75 = .ok (.aload_n 0, 1) := by decide +kernel
theorem dX6_strike_76 : decode cX6_strike 76 = .ok (.dup, 1) := by decide +kernel
theorem dX6_strike_77 : decode cX6_strike 77 = .ok (.getfield 103, 3) := by decide +kernel
theorem dX6_strike_80 : decode cX6_strike 80 = .ok (.iconst 1, 1) := by decide +kernel
theorem dX6_strike_81 : decode cX6_strike 81 = .ok (.iadd, 1) := by decide +kernel
theorem dX6_strike_82 : decode cX6_strike 82 = .ok (.putfield 103, 3) := by decide +kernel
theorem dX6_strike_85 : decode cX6_strike 85 = .ok (.aload_n 0, 1) := by decide +kernel
theorem dX6_strike_86 : decode cX6_strike 86 = .ok (.getfield 97, 3) := by decide +kernel
theorem dX6_strike_89 : decode cX6_strike 89 = .ok (.iconst 1, 1) := by decide +kernel
theorem dX6_strike_90 : decode cX6_strike 90 = .ok (.isub, 1) := by decide +kernel
theorem dX6_strike_91 : decode cX6_strike 91 = .ok (.ireturn, 1) := by decide +kernel
set_option maxRecDepth 20000 in
theorem ggX6_felt_X6_isStroke : GoodIn wsX6_felt wsX6_isStroke := goodIn_r _ [7, 8, 9, 10, 6, 11, 12, 13, 14, 15, 16, 17, 18, 19, 20, 21, 22, 23, 24, 25, 26, 27, 28, 29, 30, 31, 32, 33, 34, 35, 36, 37, 38, 39, 40, 41, 42, 43, 44, 45] (by decide +kernel) (by decide +kernel)
set_option maxRecDepth 20000 in
theorem gX6_felt_X6_isStroke : GoodIn wsX6_felt (wsV RX6 144 RX6 yX6_isStroke wsX6_isStroke) := goodIn_app (goodIn_of _ (by decide +kernel)) ggX6_felt_X6_isStroke
set_option maxRecDepth 20000 in
theorem ggX6_felt_X6_within : GoodIn wsX6_felt wsX6_within := goodIn_r _ [11] (by decide +kernel) (by decide +kernel)
set_option maxRecDepth 20000 in
theorem gX6_felt_X6_within : GoodIn wsX6_felt (va_wsS RX6 62 yX6_within wsX6_within) := goodIn_app (goodIn_of _ (by decide +kernel)) ggX6_felt_X6_within
theorem dX6_felt_0 : decode cX6_felt 0 = .ok (.aload_n 0, 1) := by decide +kernel
theorem dX6_felt_1 : decode cX6_felt 1 = .ok (.iload_n 1, 1) := by decide +kernel
theorem dX6_felt_2 : decode cX6_felt 2 = .ok (.invokevirtual 144, 3) := by decide +kernel
theorem dX6_felt_5 : decode cX6_felt 5 = .ok (.ifCond .ne 6, 3) := by decide +kernel
theorem dX6_felt_8 : decode cX6_felt 8 = .ok (.bipush (-101), 2) := by decide +kernel
theorem dX6_felt_10 : decode cX6_felt 10 = .ok (.ireturn, 1) := by decide +kernel
theorem dX6_felt_11 : decode cX6_felt 11 = .ok (.iload_n 2, 1) := by decide +kernel
theorem dX6_felt_12 : decode cX6_felt 12 = .ok (.iconst 0, 1) := by decide +kernel
theorem dX6_felt_13 : decode cX6_felt 13 = .ok (.bipush 9, 2) := by decide +kernel
theorem dX6_felt_15 : decode cX6_felt 15 = .ok (.invokestatic 62, 3) := by decide +kernel
theorem dX6_felt_18 : decode cX6_felt 18 = .ok (.ifCond .ne 6, 3) := by decide +kernel
theorem dX6_felt_21 : decode cX6_felt 21 = .ok (.bipush (-102), 2) := by decide +kernel
theorem dX6_felt_23 : decode cX6_felt 23 = .ok (.ireturn, 1) := by decide +kernel
theorem dX6_felt_24 : decode cX6_felt 24 = .ok (.aload_n 0, 1) := by decide +kernel
theorem dX6_felt_25 : decode cX6_felt 25 = .ok (.getfield 19, 3) := by decide +kernel
theorem dX6_felt_28 : decode cX6_felt 28 = .ok (.iload_n 1, 1) := by decide +kernel
theorem dX6_felt_29 : decode cX6_felt 29 = .ok (.iaload, 1) := by decide +kernel
theorem dX6_felt_30 : decode cX6_felt 30 = .ok (.istore_n 3, 1) := by decide +kernel
theorem dX6_felt_31 : decode cX6_felt 31 = .ok (.aload_n 0, 1) := by decide +kernel
theorem dX6_felt_32 : decode cX6_felt 32 = .ok (.getfield 19, 3) := by decide +kernel
theorem dX6_felt_35 : decode cX6_felt 35 = .ok (.iload_n 1, 1) := by decide +kernel
theorem dX6_felt_36 : decode cX6_felt 36 = .ok (.iload_n 2, 1) := by decide +kernel
theorem dX6_felt_37 : decode cX6_felt 37 = .ok (.iastore, 1) := by decide +kernel
theorem dX6_felt_38 : decode cX6_felt 38 = .ok (.aload_n 0, 1) := by decide +kernel
theorem dX6_felt_39 : decode cX6_felt 39 = .ok (.dup, 1) := by decide +kernel
theorem dX6_felt_40 : decode cX6_felt 40 = .ok (.getfield 103, 3) := by decide +kernel
theorem dX6_felt_43 : decode cX6_felt 43 = .ok (.iconst 1, 1) := by decide +kernel
theorem dX6_felt_44 : decode cX6_felt 44 = .ok (.iadd, 1) := by decide +kernel
theorem dX6_felt_45 : decode cX6_felt 45 = .ok (.putfield 103, 3) := by decide +kernel
theorem dX6_felt_48 : decode cX6_felt 48 = .ok (.iload_n 3, 1) := by decide +kernel
theorem dX6_felt_49 : decode cX6_felt 49 = .ok (.ireturn, 1) := by decide +kernel
set_option maxRecDepth 20000 in
theorem ggX6_strokeNow_X6_isHour : GoodIn wsX6_strokeNow wsX6_isHour := goodIn_r _ [6, 7, 8, 5, 9] (by decide +kernel) (by decide +kernel)
set_option maxRecDepth 20000 in
theorem gX6_strokeNow_X6_isHour : GoodIn wsX6_strokeNow (va_wsS RX6 141 yX6_isHour wsX6_isHour) := goodIn_app (goodIn_of _ (by decide +kernel)) ggX6_strokeNow_X6_isHour
theorem dX6_strokeNow_0 : decode cX6_strokeNow 0 = .ok (.aload_n 0, 1) := by decide +kernel
theorem dX6_strokeNow_1 : decode cX6_strokeNow 1 = .ok (.getfield 16, 3) := by decide +kernel
theorem dX6_strokeNow_4 : decode cX6_strokeNow 4 = .ok (.iload_n 1, 1) := by decide +kernel
theorem dX6_strokeNow_5 : decode cX6_strokeNow 5 = .ok (.iaload, 1) := by decide +kernel
theorem dX6_strokeNow_6 : decode cX6_strokeNow 6 = .ok (.aload_n 0, 1) := by decide +kernel
theorem dX6_strokeNow_7 : decode cX6_strokeNow 7 = .ok (.getfield 19, 3) := by decide +kernel
theorem dX6_strokeNow_10 : decode cX6_strokeNow 10 = .ok (.iload_n 1, 1) := by decide +kernel
theorem dX6_strokeNow_11 : decode cX6_strokeNow 11 = .ok (.iaload, 1) := by decide +kernel
theorem dX6_strokeNow_12 : decode cX6_strokeNow 12 = .ok (.iconst 1, 1) := by decide +kernel
theorem dX6_strokeNow_13 : decode cX6_strokeNow 13 = .ok (.iadd, 1) := by decide +kernel
theorem dX6_strokeNow_14 : decode cX6_strokeNow 14 = .ok (.iconst 2, 1) := by decide +kernel
theorem dX6_strokeNow_15 : decode cX6_strokeNow 15 = .ok (.idiv, 1) := by decide +kernel
theorem dX6_strokeNow_16 : decode cX6_strokeNow 16 = .ok (.iadd, 1) := by decide +kernel
theorem dX6_strokeNow_17 : decode cX6_strokeNow 17 = .ok (.istore_n 3, 1) := by decide +kernel
theorem dX6_strokeNow_18 : decode cX6_strokeNow 18 = .ok (.iload_n 2, 1) := by decide +kernel
theorem dX6_strokeNow_19 : decode cX6_strokeNow 19 = .ok (.ifCond .ne 12, 3) := by decide +kernel
theorem dX6_strokeNow_22 : decode cX6_strokeNow 22 = .ok (.aload_n 0, 1) := by decide +kernel
theorem dX6_strokeNow_23 : decode cX6_strokeNow 23 = .ok (.getfield 16, 3) := by decide +kernel
theorem dX6_strokeNow_26 : decode cX6_strokeNow 26 = .ok (.iload_n 1, 1) := by decide +kernel
theorem dX6_strokeNow_27 : decode cX6_strokeNow 27 = .ok (.iaload, 1) := by decide +kernel
theorem dX6_strokeNow_28 : decode cX6_strokeNow 28 = .ok (.goto 29, 3) := by decide +kernel
theorem dX6_strokeNow_31 : decode cX6_strokeNow 31 = .ok (.iload_n 2, 1) := by decide +kernel
theorem dX6_strokeNow_32 : decode cX6_strokeNow 32 = .ok (.iconst 1, 1) := by decide +kernel
theorem dX6_strokeNow_33 : decode cX6_strokeNow 33 = .ok (.if_icmp .ne 12, 3) := by decide +kernel
theorem dX6_strokeNow_36 : decode cX6_strokeNow 36 = .ok (.aload_n 0, 1) := by decide +kernel
theorem dX6_strokeNow_37 : decode cX6_strokeNow 37 = .ok (.getfield 19, 3) := by decide +kernel
theorem dX6_strokeNow_40 : decode cX6_strokeNow 40 = .ok (.iload_n 1, 1) := by decide +kernel
theorem dX6_strokeNow_41 : decode cX6_strokeNow 41 = .ok (.iaload, 1) := by decide +kernel
theorem dX6_strokeNow_42 : decode cX6_strokeNow 42 = .ok (.goto 15, 3) := by decide +kernel
theorem dX6_strokeNow_45 : decode cX6_strokeNow 45 = .ok (.iload_n 3, 1) := by decide +kernel
theorem dX6_strokeNow_46 : decode cX6_strokeNow 46 = .ok (.invokestatic 141, 3) := by decide +kernel
theorem dX6_strokeNow_49 : decode cX6_strokeNow 49 = .ok (.ifCond .eq 7, 3) := by decide +kernel
theorem dX6_strokeNow_52 : decode cX6_strokeNow 52 = .ok (.iload_n 3, 1) := by decide +kernel
theorem dX6_strokeNow_53 : decode cX6_strokeNow 53 = .ok (.goto 4, 3) := by decide +kernel
theorem dX6_strokeNow_56 : decode cX6_strokeNow 56 = .ok (.iconst (-1), 1) := by decide +kernel
theorem dX6_strokeNow_57 : decode cX6_strokeNow 57 = .ok (.ireturn, 1) := by decide +kernel
set_option maxRecDepth 20000 in
theorem ggX6_stroke_X6_isStroke : GoodIn wsX6_stroke wsX6_isStroke := goodIn_r _ [5, 6, 7, 8, 4, 9, 19, 20, 21, 22, 23, 24, 25, 26, 27, 28, 29, 30, 31, 32, 33, 34, 35, 36, 37, 38, 39, 40, 41, 42, 43, 44, 45, 46, 47, 48, 49, 50, 51, 52] (by decide +kernel) (by decide +kernel)
set_option maxRecDepth 20000 in
theorem gX6_stroke_X6_isStroke : GoodIn wsX6_stroke (wsV RX6 144 RX6 yX6_isStroke wsX6_isStroke) := goodIn_app (goodIn_of _ (by decide +kernel)) ggX6_stroke_X6_isStroke
set_option maxRecDepth 20000 in
theorem ggX6_stroke_X6_within : GoodIn wsX6_stroke wsX6_within := goodIn_r _ [9] (by decide +kernel) (by decide +kernel)
set_option maxRecDepth 20000 in
theorem gX6_stroke_X6_within : GoodIn wsX6_stroke (va_wsS RX6 62 yX6_within wsX6_within) := goodIn_app (goodIn_of _ (by decide +kernel)) ggX6_stroke_X6_within
set_option maxRecDepth 20000 in
theorem ggX6_stroke_X6_strokeNow : GoodIn wsX6_stroke wsX6_strokeNow := goodIn_r _ [13, 14, 15, 16, 17, 4, 18, 7, 8, 9, 19, 20, 21, 22, 23, 24, 25, 26, 27, 28, 29, 30, 31, 32, 33, 34, 35, 36, 37, 38, 39, 40, 41, 42, 43, 44, 45, 46, 47, 48, 49, 50, 51, 52] (by decide +kernel) (by decide +kernel)
set_option maxRecDepth 20000 in
theorem gX6_stroke_X6_strokeNow : GoodIn wsX6_stroke (wsV RX6 147 RX6 yX6_strokeNow wsX6_strokeNow) := goodIn_app (goodIn_of _ (by decide +kernel)) ggX6_stroke_X6_strokeNow
theorem dX6_stroke_0 : decode cX6_stroke 0 = .ok (.aload_n 0, 1) := by decide +kernel
theorem dX6_stroke_1 : decode cX6_stroke 1 = .ok (.iload_n 1, 1) := by decide +kernel
theorem dX6_stroke_2 : decode cX6_stroke 2 = .ok (.invokevirtual 144, 3) := by decide +kernel
theorem dX6_stroke_5 : decode cX6_stroke 5 = .ok (.ifCond .ne 8, 3) := by decide +kernel
theorem dX6_stroke_8 : decode cX6_stroke 8 = .ok (.bipush (-101), 2) := by decide +kernel
theorem dX6_stroke_10 : decode cX6_stroke 10 = .ok (.goto 23, 3) := by decide +kernel
theorem dX6_stroke_13 : decode cX6_stroke 13 = .ok (.iload_n 2, 1) := by decide +kernel
theorem dX6_stroke_14 : decode cX6_stroke 14 = .ok (.iconst 0, 1) := by decide +kernel
theorem dX6_stroke_15 : decode cX6_stroke 15 = .ok (.iconst 2, 1) := by decide +kernel
theorem dX6_stroke_16 : decode cX6_stroke 16 = .ok (.invokestatic 62, 3) := by decide +kernel
theorem dX6_stroke_19 : decode cX6_stroke 19 = .ok (.ifCond .eq 12, 3) := by decide +kernel
theorem dX6_stroke_22 : decode cX6_stroke 22 = .ok (.aload_n 0, 1) := by decide +kernel
theorem dX6_stroke_23 : decode cX6_stroke 23 = .ok (.iload_n 1, 1) := by decide +kernel
theorem dX6_stroke_24 : decode cX6_stroke 24 = .ok (.iload_n 2, 1) := by decide +kernel
theorem dX6_stroke_25 : decode cX6_stroke 25 = .ok (.invokevirtual 147, 3) := by decide +kernel
theorem dX6_stroke_28 : decode cX6_stroke 28 = .ok (.goto 5, 3) := by decide +kernel
theorem dX6_stroke_31 : decode cX6_stroke 31 = .ok (.bipush (-102), 2) := by decide +kernel
theorem dX6_stroke_33 : decode cX6_stroke 33 = .ok (.ireturn, 1) := by decide +kernel
set_option maxRecDepth 20000 in
theorem ggX6_isPolite_X6_isIn : GoodIn wsX6_isPolite wsX6_isIn := goodIn_r _ [5] (by decide +kernel) (by decide +kernel)
set_option maxRecDepth 20000 in
theorem gX6_isPolite_X6_isIn : GoodIn wsX6_isPolite (va_wsS RX6 150 yX6_isIn wsX6_isIn) := goodIn_app (goodIn_of _ (by decide +kernel)) ggX6_isPolite_X6_isIn
set_option maxRecDepth 20000 in
theorem ggX6_isPolite_X6_howAt : GoodIn wsX6_isPolite wsX6_howAt := goodIn_r _ [9, 10, 11, 12, 4, 13, 14, 15, 16, 17, 18, 19, 20, 21, 22, 23, 24, 25, 26, 27, 28, 29, 30, 31, 32, 33, 34, 35, 36, 37, 38, 39, 40, 41, 42, 43, 44, 45, 46, 47, 48, 49, 50, 51, 52, 53, 54, 55, 56, 57, 58, 59, 60, 61, 62, 63, 64] (by decide +kernel) (by decide +kernel)
set_option maxRecDepth 20000 in
theorem gX6_isPolite_X6_howAt : GoodIn wsX6_isPolite (wsV RX6 125 RX6 yX6_howAt wsX6_howAt) := goodIn_app (goodIn_of _ (by decide +kernel)) ggX6_isPolite_X6_howAt
theorem dX6_isPolite_0 : decode cX6_isPolite 0 = .ok (.iconst 1, 1) := by decide +kernel
theorem dX6_isPolite_1 : decode cX6_isPolite 1 = .ok (.istore 4, 2) := by decide +kernel
theorem dX6_isPolite_3 : decode cX6_isPolite 3 = .ok (.iload_n 2, 1) := by decide +kernel
theorem dX6_isPolite_4 : decode cX6_isPolite 4 = .ok (.istore 5, 2) := by decide +kernel
theorem dX6_isPolite_6 : decode cX6_isPolite 6 = .ok (.iload 5, 2) := by decide +kernel
theorem dX6_isPolite_8 : decode cX6_isPolite 8 = .ok (.iload_n 2, 1) := by decide +kernel
theorem dX6_isPolite_9 : decode cX6_isPolite 9 = .ok (.iload_n 3, 1) := by decide +kernel
theorem dX6_isPolite_10 : decode cX6_isPolite 10 = .ok (.iadd, 1) := by decide +kernel
theorem dX6_isPolite_11 : decode cX6_isPolite 11 = .ok (.if_icmp .ge 59, 3) := by decide +kernel
theorem dX6_isPolite_14 : decode cX6_isPolite 14 = .ok (.iconst 0, 1) := by decide +kernel
theorem dX6_isPolite_15 : decode cX6_isPolite 15 = .ok (.istore 6, 2) := by decide +kernel
theorem dX6_isPolite_17 : decode cX6_isPolite 17 = .ok (.iload 6, 2) := by decide +kernel
theorem dX6_isPolite_19 : decode cX6_isPolite 19 = .ok (.aload_n 0, 1) := by decide +kernel
theorem dX6_isPolite_20 : decode cX6_isPolite 20 = .ok (.getfield 94, 3) := by decide +kernel
theorem dX6_isPolite_23 : decode cX6_isPolite 23 = .ok (.if_icmp .ge 41, 3) := by decide +kernel
theorem dX6_isPolite_26 : decode cX6_isPolite 26 = .ok (.iload 4, 2) := by decide +kernel
theorem dX6_isPolite_28 : decode cX6_isPolite 28 = .ok (.ifCond .eq 27, 3) := by decide +kernel
theorem dX6_isPolite_31 : decode cX6_isPolite 31 = .ok (.iload_n 1, 1) := by decide +kernel
theorem dX6_isPolite_32 : decode cX6_isPolite 32 = .ok (.iload 6, 2) := by decide +kernel
theorem dX6_isPolite_34 : decode cX6_isPolite 34 = .ok (.invokestatic 150, 3) := by decide +kernel
theorem dX6_isPolite_37 : decode cX6_isPolite 37 = .ok (.ifCond .eq 14, 3) := by decide +kernel
theorem dX6_isPolite_40 : decode cX6_isPolite 40 = .ok (.aload_n 0, 1) := by decide +kernel
theorem dX6_isPolite_41 : decode cX6_isPolite 41 = .ok (.iload 6, 2) := by decide +kernel
theorem dX6_isPolite_43 : decode cX6_isPolite 43 = .ok (.iload 5, 2) := by decide +kernel
theorem dX6_isPolite_45 : decode cX6_isPolite 45 = .ok (.invokevirtual 125, 3) := by decide +kernel
theorem dX6_isPolite_48 : decode cX6_isPolite 48 = .ok (.ifCond .le 7, 3) := by decide +kernel
theorem dX6_isPolite_51 : decode cX6_isPolite 51 = .ok (.iconst 1, 1) := by decide +kernel
theorem dX6_isPolite_52 : decode cX6_isPolite 52 = .ok (.goto 4, 3) := by decide +kernel
theorem dX6_isPolite_55 : decode cX6_isPolite 55 = .ok (.iconst 0, 1) := by decide +kernel
theorem dX6_isPolite_56 : decode cX6_isPolite 56 = .ok (.istore 4, 2) := by decide +kernel
theorem dX6_isPolite_58 : decode cX6_isPolite 58 = .ok (.iinc 6 1, 3) := by decide +kernel
theorem dX6_isPolite_61 : decode cX6_isPolite 61 = .ok (.goto (-44), 3) := by decide +kernel
theorem dX6_isPolite_64 : decode cX6_isPolite 64 = .ok (.iinc 5 1, 3) := by decide +kernel
theorem dX6_isPolite_67 : decode cX6_isPolite 67 = .ok (.goto (-61), 3) := by decide +kernel
theorem dX6_isPolite_70 : decode cX6_isPolite 70 = .ok (.iload 4, 2) := by decide +kernel
theorem dX6_isPolite_72 : decode cX6_isPolite 72 = .ok (.ireturn, 1) := by decide +kernel
set_option maxRecDepth 20000 in
theorem ggX6_dinnerNow_X6_isPolite : GoodIn wsX6_dinnerNow wsX6_isPolite := goodIn_r _ [5, 6, 7, 8, 4, 9, 10, 11, 12, 13, 14, 15, 16, 17, 18, 19, 20, 21, 22, 23, 24, 25, 26, 27, 28, 29, 30, 31, 32, 33, 34, 35, 36, 37, 38, 39, 40, 41, 42, 43, 44, 45, 46, 47, 48, 49, 50, 51, 52, 53, 54, 55, 56, 57, 58, 59, 60, 61, 62, 63, 64, 65, 66, 67, 68] (by decide +kernel) (by decide +kernel)
set_option maxRecDepth 20000 in
theorem gX6_dinnerNow_X6_isPolite : GoodIn wsX6_dinnerNow (wsV RX6 154 RX6 yX6_isPolite wsX6_isPolite) := goodIn_app (goodIn_of _ (by decide +kernel)) ggX6_dinnerNow_X6_isPolite
theorem dX6_dinnerNow_0 : decode cX6_dinnerNow 0 = .ok (.iconst 0, 1) := by decide +kernel
theorem dX6_dinnerNow_1 : decode cX6_dinnerNow 1 = .ok (.istore_n 3, 1) := by decide +kernel
theorem dX6_dinnerNow_2 : decode cX6_dinnerNow 2 = .ok (.iload_n 3, 1) := by decide +kernel
theorem dX6_dinnerNow_3 : decode cX6_dinnerNow 3 = .ok (.iload_n 2, 1) := by decide +kernel
theorem dX6_dinnerNow_4 : decode cX6_dinnerNow 4 = .ok (.iadd, 1) := by decide +kernel
theorem dX6_dinnerNow_5 : decode cX6_dinnerNow 5 = .ok (.bipush 12, 2) := by decide +kernel
theorem dX6_dinnerNow_7 : decode cX6_dinnerNow 7 = .ok (.if_icmp .gt 21, 3) := by decide +kernel
theorem dX6_dinnerNow_10 : decode cX6_dinnerNow 10 = .ok (.aload_n 0, 1) := by decide +kernel
theorem dX6_dinnerNow_11 : decode cX6_dinnerNow 11 = .ok (.iload_n 1, 1) := by decide +kernel
theorem dX6_dinnerNow_12 : decode cX6_dinnerNow 12 = .ok (.iload_n 3, 1) := by decide +kernel
theorem dX6_dinnerNow_13 : decode cX6_dinnerNow 13 = .ok (.iload_n 2, 1) := by decide +kernel
theorem dX6_dinnerNow_14 : decode cX6_dinnerNow 14 = .ok (.invokevirtual 154, 3) := by decide +kernel
theorem dX6_dinnerNow_17 : decode cX6_dinnerNow 17 = .ok (.ifCond .eq 5, 3) := by decide +kernel
theorem dX6_dinnerNow_20 : decode cX6_dinnerNow 20 = .ok (.iload_n 3, 1) := by decide +kernel
theorem dX6_dinnerNow_21 : decode cX6_dinnerNow 21 = .ok (.ireturn, 1) := by decide +kernel
theorem dX6_dinnerNow_22 : decode cX6_dinnerNow 22 = .ok (.iinc 3 1, 3) := by decide +kernel
theorem dX6_dinnerNow_25 : decode cX6_dinnerNow 25 = .ok (.goto (-23), 3) := by decide +kernel
theorem dX6_dinnerNow_28 : decode cX6_dinnerNow 28 = .ok (.iconst (-1), 1) := by decide +kernel
theorem dX6_dinnerNow_29 : decode cX6_dinnerNow 29 = .ok (.ireturn, 1) := by decide +kernel
set_option maxRecDepth 20000 in
theorem ggX6_dinner_X6_within : GoodIn wsX6_dinner wsX6_within := goodIn_r _ [5] (by decide +kernel) (by decide +kernel)
set_option maxRecDepth 20000 in
theorem gX6_dinner_X6_within : GoodIn wsX6_dinner (va_wsS RX6 62 yX6_within wsX6_within) := goodIn_app (goodIn_of _ (by decide +kernel)) ggX6_dinner_X6_within
set_option maxRecDepth 20000 in
theorem ggX6_dinner_X6_dinnerNow : GoodIn wsX6_dinner wsX6_dinnerNow := goodIn_r _ [9, 10, 11, 12, 4, 13, 1, 14, 15, 16, 17, 18, 19, 20, 21, 22, 23, 24, 25, 26, 27, 28, 29, 30, 31, 32, 33, 34, 35, 36, 37, 38, 39, 40, 41, 42, 43, 44, 45, 46, 47, 48, 49, 50, 51, 52, 53, 54, 55, 56, 57, 58, 59, 60, 61, 62, 63, 64, 65, 66, 67, 68, 69, 70, 71, 72, 73, 74, 75] (by decide +kernel) (by decide +kernel)
set_option maxRecDepth 20000 in
theorem gX6_dinner_X6_dinnerNow : GoodIn wsX6_dinner (wsV RX6 157 RX6 yX6_dinnerNow wsX6_dinnerNow) := goodIn_app (goodIn_of _ (by decide +kernel)) ggX6_dinner_X6_dinnerNow
theorem dX6_dinner_0 : decode cX6_dinner 0 = .ok (.iload_n 1, 1) := by decide +kernel
theorem dX6_dinner_1 : decode cX6_dinner 1 = .ok (.iconst 1, 1) := by decide +kernel
theorem dX6_dinner_2 : decode cX6_dinner 2 = .ok (.iconst 1, 1) := by decide +kernel
theorem dX6_dinner_3 : decode cX6_dinner 3 = .ok (.aload_n 0, 1) := by decide +kernel
theorem dX6_dinner_4 : decode cX6_dinner 4 = .ok (.getfield 94, 3) := by decide +kernel
theorem dX6_dinner_7 : decode cX6_dinner 7 = .ok (.ishl, 1) := by decide +kernel
theorem dX6_dinner_8 : decode cX6_dinner 8 = .ok (.iconst 1, 1) := by decide +kernel
theorem dX6_dinner_9 : decode cX6_dinner 9 = .ok (.isub, 1) := by decide +kernel
theorem dX6_dinner_10 : decode cX6_dinner 10 = .ok (.invokestatic 62, 3) := by decide +kernel
theorem dX6_dinner_13 : decode cX6_dinner 13 = .ok (.ifCond .eq 22, 3) := by decide +kernel
theorem dX6_dinner_16 : decode cX6_dinner 16 = .ok (.iload_n 2, 1) := by decide +kernel
theorem dX6_dinner_17 : decode cX6_dinner 17 = .ok (.iconst 1, 1) := by decide +kernel
theorem dX6_dinner_18 : decode cX6_dinner 18 = .ok (.bipush 6, 2) := by decide +kernel
theorem dX6_dinner_20 : decode cX6_dinner 20 = .ok (.invokestatic 62, 3) := by decide +kernel
theorem dX6_dinner_23 : decode cX6_dinner 23 = .ok (.ifCond .eq 12, 3) := by decide +kernel
theorem dX6_dinner_26 : decode cX6_dinner 26 = .ok (.aload_n 0, 1) := by decide +kernel
theorem dX6_dinner_27 : decode cX6_dinner 27 = .ok (.iload_n 1, 1) := by decide +kernel
theorem dX6_dinner_28 : decode cX6_dinner 28 = .ok (.iload_n 2, 1) := by decide +kernel
theorem dX6_dinner_29 : decode cX6_dinner 29 = .ok (.invokevirtual 157, 3) := by decide +kernel
theorem dX6_dinner_32 : decode cX6_dinner 32 = .ok (.goto 5, 3) := by decide +kernel
theorem dX6_dinner_35 : decode cX6_dinner 35 = .ok (.bipush (-102), 2) := by decide +kernel
theorem dX6_dinner_37 : decode cX6_dinner 37 = .ok (.ireturn, 1) := by decide +kernel
theorem dX6_think_0 : decode cX6_think 0 = .ok (.aload_n 0, 1) := by decide +kernel
theorem dX6_think_1 : decode cX6_think 1 = .ok (.getfield 16, 3) := by decide +kernel
theorem dX6_think_4 : decode cX6_think 4 = .ok (.aload_n 0, 1) := by decide +kernel
theorem dX6_think_5 : decode cX6_think 5 = .ok (.getfield 97, 3) := by decide +kernel
theorem dX6_think_8 : decode cX6_think 8 = .ok (.iload_n 1, 1) := by decide +kernel
theorem dX6_think_9 : decode cX6_think 9 = .ok (.iastore, 1) := by decide +kernel
theorem dX6_think_10 : decode cX6_think 10 = .ok (.aload_n 0, 1) := by decide +kernel
theorem dX6_think_11 : decode cX6_think 11 = .ok (.getfield 19, 3) := by decide +kernel
theorem dX6_think_14 : decode cX6_think 14 = .ok (.aload_n 0, 1) := by decide +kernel
theorem dX6_think_15 : decode cX6_think 15 = .ok (.getfield 97, 3) := by decide +kernel
theorem dX6_think_18 : decode cX6_think 18 = .ok (.iload_n 2, 1) := by decide +kernel
theorem dX6_think_19 : decode cX6_think 19 = .ok (.iastore, 1) := by decide +kernel
theorem dX6_think_20 : decode cX6_think 20 = .ok (.aload_n 0, 1) := by decide +kernel
theorem dX6_think_21 : decode cX6_think 21 = .ok (.iconst 1, 1) := by decide +kernel
theorem dX6_think_22 : decode cX6_think 22 = .ok (.putfield 109, 3) := by decide +kernel
theorem dX6_think_25 : decode cX6_think 25 = .ok (.return_, 1) := by decide +kernel
set_option maxRecDepth 20000 in
theorem ggX6_bestNow_X6_think : GoodIn wsX6_bestNow wsX6_think := goodIn_r _ [6, 7, 8, 9, 1, 40, 41, 42, 43, 44, 45, 46, 47, 48, 49, 50, 51, 52, 53, 54, 55, 56, 57, 58, 59, 60, 61, 62, 63, 64, 65, 66, 67, 68, 69, 70, 71, 72, 73] (by decide +kernel) (by decide +kernel)
set_option maxRecDepth 20000 in
theorem gX6_bestNow_X6_think : GoodIn wsX6_bestNow (wsV RX6 160 RX6 yX6_think wsX6_think) := goodIn_app (goodIn_of _ (by decide +kernel)) ggX6_bestNow_X6_think
set_option maxRecDepth 20000 in
theorem ggX6_bestNow_X6_hoursAll : GoodIn wsX6_bestNow wsX6_hoursAll := goodIn_r _ [13, 14, 15, 16, 17, 5, 18, 19, 20, 21, 22, 23, 24, 25, 26, 27, 28, 29, 30, 31, 32, 8, 1, 7, 9, 33, 34, 35, 36, 37, 38, 39, 40, 41, 42, 43, 44, 45, 46, 47, 48, 49, 50, 51, 52, 53, 54, 55, 56, 57, 58, 59, 60, 61, 62, 63, 64, 65, 66, 67, 68, 69, 70, 71, 72, 73] (by decide +kernel) (by decide +kernel)
set_option maxRecDepth 20000 in
theorem gX6_bestNow_X6_hoursAll : GoodIn wsX6_bestNow (wsV RX6 164 RX6 yX6_hoursAll wsX6_hoursAll) := goodIn_app (goodIn_of _ (by decide +kernel)) ggX6_bestNow_X6_hoursAll
theorem dX6_bestNow_0 : decode cX6_bestNow 0 = .ok (.iconst (-1), 1) := by decide +kernel
theorem dX6_bestNow_1 : decode cX6_bestNow 1 = .ok (.istore_n 3, 1) := by decide +kernel
theorem dX6_bestNow_2 : decode cX6_bestNow 2 = .ok (.iconst (-1), 1) := by decide +kernel
theorem dX6_bestNow_3 : decode cX6_bestNow 3 = .ok (.istore 4, 2) := by decide +kernel
theorem dX6_bestNow_5 : decode cX6_bestNow 5 = .ok (.iconst 0, 1) := by decide +kernel
theorem dX6_bestNow_6 : decode cX6_bestNow 6 = .ok (.istore 5, 2) := by decide +kernel
theorem dX6_bestNow_8 : decode cX6_bestNow 8 = .ok (.iload 5, 2) := by decide +kernel
theorem dX6_bestNow_10 : decode cX6_bestNow 10 = .ok (.bipush 9, 2) := by decide +kernel
theorem dX6_bestNow_12 : decode cX6_bestNow 12 = .ok (.if_icmp .gt 59, 3) := by decide +kernel
theorem dX6_bestNow_15 : decode cX6_bestNow 15 = .ok (.aload_n 0, 1) := by decide +kernel
theorem dX6_bestNow_16 : decode cX6_bestNow 16 = .ok (.iload 5, 2) := by decide +kernel
theorem dX6_bestNow_18 : decode cX6_bestNow 18 = .ok (.iload_n 1, 1) := by decide +kernel
theorem dX6_bestNow_19 : decode cX6_bestNow 19 = .ok (.invokevirtual 160, 3) := by decide +kernel
theorem dX6_bestNow_22 : decode cX6_bestNow 22 = .ok (.aload_n 0, 1) := by decide +kernel
theorem dX6_bestNow_23 : decode cX6_bestNow 23 = .ok (.iconst 1, 1) := by decide +kernel
theorem dX6_bestNow_24 : decode cX6_bestNow 24 = .ok (.invokevirtual 164, 3) := by decide +kernel
theorem dX6_bestNow_27 : decode cX6_bestNow 27 = .ok (.aload_n 0, 1) := by decide +kernel
theorem dX6_bestNow_28 : decode cX6_bestNow 28 = .ok (.iconst 2, 1) := by decide +kernel
theorem dX6_bestNow_29 : decode cX6_bestNow 29 = .ok (.invokevirtual 164, 3) := by decide +kernel
theorem dX6_bestNow_32 : decode cX6_bestNow 32 = .ok (.iadd, 1) := by decide +kernel
theorem dX6_bestNow_33 : decode cX6_bestNow 33 = .ok (.istore 6, 2) := by decide +kernel
theorem dX6_bestNow_35 : decode cX6_bestNow 35 = .ok (.iload 6, 2) := by decide +kernel
theorem dX6_bestNow_37 : decode cX6_bestNow 37 = .ok (.iload 4, 2) := by decide +kernel
theorem dX6_bestNow_39 : decode cX6_bestNow 39 = .ok (.if_icmp .le 8, 3) := by decide +kernel
theorem dX6_bestNow_42 : decode cX6_bestNow 42 = .ok (.iload 5, 2) := by decide +kernel
theorem dX6_bestNow_44 : decode cX6_bestNow 44 = .ok (.goto 4, 3) := by decide +kernel
theorem dX6_bestNow_47 : decode cX6_bestNow 47 = .ok (.iload_n 3, 1) := by decide +kernel
theorem dX6_bestNow_48 : decode cX6_bestNow 48 = .ok (.istore_n 3, 1) := by decide +kernel
theorem dX6_bestNow_49 : decode cX6_bestNow 49 = .ok (.iload 6, 2) := by decide +kernel
theorem dX6_bestNow_51 : decode cX6_bestNow 51 = .ok (.iload 4, 2) := by decide +kernel
theorem dX6_bestNow_53 : decode cX6_bestNow 53 = .ok (.if_icmp .le 8, 3) := by decide +kernel
theorem dX6_bestNow_56 : decode cX6_bestNow 56 = .ok (.iload 6, 2) := by decide +kernel
theorem dX6_bestNow_58 : decode cX6_bestNow 58 = .ok (.goto 5, 3) := by decide +kernel
theorem dX6_bestNow_61 : decode cX6_bestNow 61 = .ok (.iload 4, 2) := by decide +kernel
theorem dX6_bestNow_63 : decode cX6_bestNow 63 = .ok (.istore 4, 2) := by decide +kernel
theorem dX6_bestNow_65 : decode cX6_bestNow 65 = .ok (.iinc 5 1, 3) := by decide +kernel
theorem dX6_bestNow_68 : decode cX6_bestNow 68 = .ok (.goto (-60), 3) := by decide +kernel
theorem dX6_bestNow_71 : decode cX6_bestNow 71 = .ok (.aload_n 0, 1) := by decide +kernel
theorem dX6_bestNow_72 : decode cX6_bestNow 72 = .ok (.iconst 0, 1) := by decide +kernel
theorem dX6_bestNow_73 : decode cX6_bestNow 73 = .ok (.putfield 109, 3) := by decide +kernel
theorem dX6_bestNow_76 : decode cX6_bestNow 76 = .ok (.iload_n 2, 1) := by decide +kernel
theorem dX6_bestNow_77 : decode cX6_bestNow 77 = .ok (.ifCond .ne 7, 3) := by decide +kernel
theorem dX6_bestNow_80 : decode cX6_bestNow 80 = .ok (.iload_n 3, 1) := by decide +kernel
theorem dX6_bestNow_81 : decode cX6_bestNow 81 = .ok (.goto 5, 3) := by decide +kernel
theorem dX6_bestNow_84 : decode cX6_bestNow 84 = .ok (.iload 4, 2) := by decide +kernel
theorem dX6_bestNow_86 : decode cX6_bestNow 86 = .ok (.ireturn, 1) := by decide +kernel
set_option maxRecDepth 20000 in
theorem ggX6_best_X6_within : GoodIn wsX6_best wsX6_within := goodIn_r _ [5] (by decide +kernel) (by decide +kernel)
set_option maxRecDepth 20000 in
theorem gX6_best_X6_within : GoodIn wsX6_best (va_wsS RX6 62 yX6_within wsX6_within) := goodIn_app (goodIn_of _ (by decide +kernel)) ggX6_best_X6_within
set_option maxRecDepth 20000 in
theorem ggX6_best_X6_bestNow : GoodIn wsX6_best wsX6_bestNow := goodIn_r _ [9, 10, 11, 12, 13, 4, 14, 15, 16, 17, 18, 19, 20, 21, 1, 22, 23, 24, 25, 26, 27, 28, 29, 30, 31, 32, 33, 34, 35, 36, 37, 38, 39, 40, 41, 42, 43, 44, 45, 46, 47, 48, 49, 50, 51, 52, 53, 54, 55, 56, 57, 58, 59, 60, 61, 62, 63, 64, 65, 66, 67, 68, 69, 70, 71, 72, 73, 74, 75, 76, 77, 78, 79, 80] (by decide +kernel) (by decide +kernel)
set_option maxRecDepth 20000 in
theorem gX6_best_X6_bestNow : GoodIn wsX6_best (wsV RX6 167 RX6 yX6_bestNow wsX6_bestNow) := goodIn_app (goodIn_of _ (by decide +kernel)) ggX6_best_X6_bestNow
theorem dX6_best_0 : decode cX6_best 0 = .ok (.iload_n 1, 1) := by decide +kernel
theorem dX6_best_1 : decode cX6_best 1 = .ok (.iconst 1, 1) := by decide +kernel
theorem dX6_best_2 : decode cX6_best 2 = .ok (.bipush 9, 2) := by decide +kernel
theorem dX6_best_4 : decode cX6_best 4 = .ok (.invokestatic 62, 3) := by decide +kernel
theorem dX6_best_7 : decode cX6_best 7 = .ok (.ifCond .eq 12, 3) := by decide +kernel
theorem dX6_best_10 : decode cX6_best 10 = .ok (.iload_n 2, 1) := by decide +kernel
theorem dX6_best_11 : decode cX6_best 11 = .ok (.iconst 0, 1) := by decide +kernel
theorem dX6_best_12 : decode cX6_best 12 = .ok (.iconst 1, 1) := by decide +kernel
theorem dX6_best_13 : decode cX6_best 13 = .ok (.invokestatic 62, 3) := by decide +kernel
theorem dX6_best_16 : decode cX6_best 16 = .ok (.ifCond .ne 6, 3) := by decide +kernel
theorem dX6_best_19 : decode cX6_best 19 = .ok (.bipush (-102), 2) := by decide +kernel
theorem dX6_best_21 : decode cX6_best 21 = .ok (.ireturn, 1) := by decide +kernel
theorem dX6_best_22 : decode cX6_best 22 = .ok (.aload_n 0, 1) := by decide +kernel
theorem dX6_best_23 : decode cX6_best 23 = .ok (.getfield 94, 3) := by decide +kernel
theorem dX6_best_26 : decode cX6_best 26 = .ok (.ifCond .ne 8, 3) := by decide +kernel
theorem dX6_best_29 : decode cX6_best 29 = .ok (.bipush (-103), 2) := by decide +kernel
theorem dX6_best_31 : decode cX6_best 31 = .ok (.goto 9, 3) := by decide +kernel
theorem dX6_best_34 : decode cX6_best 34 = .ok (.aload_n 0, 1) := by decide +kernel
theorem dX6_best_35 : decode cX6_best 35 = .ok (.iload_n 1, 1) := by decide +kernel
theorem dX6_best_36 : decode cX6_best 36 = .ok (.iload_n 2, 1) := by decide +kernel
theorem dX6_best_37 : decode cX6_best 37 = .ok (.invokevirtual 167, 3) := by decide +kernel
theorem dX6_best_40 : decode cX6_best 40 = .ok (.ireturn, 1) := by decide +kernel
set_option maxRecDepth 20000 in
theorem ggX6_hear_X6_isHouse : GoodIn wsX6_hear wsX6_isHouse := goodIn_r _ [10, 11, 12, 13, 9, 14, 18, 19, 20, 21, 22, 23, 24, 25, 26, 27, 28, 29, 30, 31, 32, 33, 34, 35, 36, 37, 38, 39, 40, 41, 42, 43, 44, 45, 46, 47, 48, 49, 50, 51] (by decide +kernel) (by decide +kernel)
set_option maxRecDepth 20000 in
theorem gX6_hear_X6_isHouse : GoodIn wsX6_hear (wsV RX6 134 RX6 yX6_isHouse wsX6_isHouse) := goodIn_app (goodIn_of _ (by decide +kernel)) ggX6_hear_X6_isHouse
set_option maxRecDepth 20000 in
theorem ggX6_hear_X6_isHour : GoodIn wsX6_hear wsX6_isHour := goodIn_r _ [17, 12, 13, 9, 14] (by decide +kernel) (by decide +kernel)
set_option maxRecDepth 20000 in
theorem gX6_hear_X6_isHour : GoodIn wsX6_hear (va_wsS RX6 141 yX6_isHour wsX6_isHour) := goodIn_app (goodIn_of _ (by decide +kernel)) ggX6_hear_X6_isHour
set_option maxRecDepth 20000 in
theorem ggX6_hear_X6_within : GoodIn wsX6_hear wsX6_within := goodIn_r _ [14] (by decide +kernel) (by decide +kernel)
set_option maxRecDepth 20000 in
theorem gX6_hear_X6_within : GoodIn wsX6_hear (va_wsS RX6 62 yX6_within wsX6_within) := goodIn_app (goodIn_of _ (by decide +kernel)) ggX6_hear_X6_within
theorem dX6_hear_0 : decode cX6_hear 0 = .ok (.aload_n 0, 1) := by decide +kernel
theorem dX6_hear_1 : decode cX6_hear 1 = .ok (.iload_n 1, 1) := by decide +kernel
theorem dX6_hear_2 : decode cX6_hear 2 = .ok (.invokevirtual 134, 3) := by decide +kernel
theorem dX6_hear_5 : decode cX6_hear 5 = .ok (.ifCond .ne 6, 3) := by decide +kernel
theorem dX6_hear_8 : decode cX6_hear 8 = .ok (.bipush (-101), 2) := by decide +kernel
theorem dX6_hear_10 : decode cX6_hear 10 = .ok (.ireturn, 1) := by decide +kernel
theorem dX6_hear_11 : decode cX6_hear 11 = .ok (.iload_n 2, 1) := by decide +kernel
theorem dX6_hear_12 : decode cX6_hear 12 = .ok (.invokestatic 141, 3) := by decide +kernel
theorem dX6_hear_15 : decode cX6_hear 15 = .ok (.ifCond .eq 23, 3) := by decide +kernel
theorem dX6_hear_18 : decode cX6_hear 18 = .ok (.iload_n 3, 1) := by decide +kernel
theorem dX6_hear_19 : decode cX6_hear 19 = .ok (.iconst 1, 1) := by decide +kernel
theorem dX6_hear_20 : decode cX6_hear 20 = .ok (.bipush 9, 2) := by decide +kernel
theorem dX6_hear_22 : decode cX6_hear 22 = .ok (.invokestatic 62, 3) := by decide +kernel
theorem dX6_hear_25 : decode cX6_hear 25 = .ok (.ifCond .eq 13, 3) := by decide +kernel
theorem dX6_hear_28 : decode cX6_hear 28 = .ok (.iload 4, 2) := by decide +kernel
theorem dX6_hear_30 : decode cX6_hear 30 = .ok (.iconst 0, 1) := by decide +kernel
theorem dX6_hear_31 : decode cX6_hear 31 = .ok (.iconst 2, 1) := by decide +kernel
theorem dX6_hear_32 : decode cX6_hear 32 = .ok (.invokestatic 62, 3) := by decide +kernel
theorem dX6_hear_35 : decode cX6_hear 35 = .ok (.ifCond .ne 6, 3) := by decide +kernel
theorem dX6_hear_38 : decode cX6_hear 38 = .ok (.bipush (-102), 2) := by decide +kernel
theorem dX6_hear_40 : decode cX6_hear 40 = .ok (.ireturn, 1) := by decide +kernel
theorem dX6_hear_41 : decode cX6_hear 41 = .ok (.aload_n 0, 1) := by decide +kernel
theorem dX6_hear_42 : decode cX6_hear 42 = .ok (.getfield 106, 3) := by decide +kernel
theorem dX6_hear_45 : decode cX6_hear 45 = .ok (.bipush 6, 2) := by decide +kernel
theorem dX6_hear_47 : decode cX6_hear 47 = .ok (.if_icmp .ne 6, 3) := by decide +kernel
theorem dX6_hear_50 : decode cX6_hear 50 = .ok (.bipush (-104), 2) := by decide +kernel
theorem dX6_hear_52 : decode cX6_hear 52 = .ok (.ireturn, 1) := by decide +kernel
theorem dX6_hear_53 : decode cX6_hear 53 = .ok (.aload_n 0, 1) := by decide +kernel
theorem dX6_hear_54 : decode cX6_hear 54 = .ok (.getfield 22, 3) := by decide +kernel
theorem dX6_hear_57 : decode cX6_hear 57 = .ok (.aload_n 0, 1) := by decide +kernel
theorem dX6_hear_58 : decode cX6_hear 58 = .ok (.getfield 106, 3) := by decide +kernel
theorem dX6_hear_61 : decode cX6_hear 61 = .ok (.iload_n 1, 1) := by decide +kernel
theorem dX6_hear_62 : decode cX6_hear 62 = .ok (.iastore, 1) := by decide +kernel
theorem dX6_hear_63 : decode cX6_hear 63 = .ok (.aload_n 0, 1) := by decide +kernel
theorem dX6_hear_64 : decode cX6_hear 64 = .ok (.getfield 25, 3) := by decide +kernel
theorem dX6_hear_67 : decode cX6_hear 67 = .ok (.aload_n 0, 1) := by decide +kernel
theorem dX6_hear_68 : decode cX6_hear 68 = .ok (.getfield 106, 3) := by decide +kernel
theorem dX6_hear_71 : decode cX6_hear 71 = .ok (.iload_n 2, 1) := by decide +kernel
theorem dX6_hear_72 : decode cX6_hear 72 = .ok (.iastore, 1) := by decide +kernel
theorem dX6_hear_73 : decode cX6_hear 73 = .ok (.aload_n 0, 1) := by decide +kernel
theorem dX6_hear_74 : decode cX6_hear 74 = .ok (.getfield 28, 3) := by decide +kernel
theorem dX6_hear_77 : decode cX6_hear 77 = .ok (.aload_n 0, 1) := by decide +kernel
theorem dX6_hear_78 : decode cX6_hear 78 = .ok (.getfield 106, 3) := by decide +kernel
theorem dX6_hear_81 : decode cX6_hear 81 = .ok (.iload_n 3, 1) := by decide +kernel
theorem dX6_hear_82 : decode cX6_hear 82 = .ok (.iastore, 1) := by decide +kernel
theorem dX6_hear_83 : decode cX6_hear 83 = .ok (.aload_n 0, 1) := by decide +kernel
theorem dX6_hear_84 : decode cX6_hear 84 = .ok (.getfield 31, 3) := by decide +kernel
theorem dX6_hear_87 : decode cX6_hear 87 = .ok (.aload_n 0, 1) := by decide +kernel
theorem dX6_hear_88 : decode cX6_hear 88 = .ok (.getfield 106, 3) := by decide +kernel
theorem dX6_hear_91 : decode cX6_hear 91 = .ok (.iload 4, 2) := by decide +kernel
theorem dX6_hear_93 : decode cX6_hear 93 = .ok (.iastore, 1) := by decide +kernel
theorem dX6_hear_94 : decode cX6_hear 94 = .ok (.aload_n 0, 1) := by decide +kernel
theorem dX6_hear_95 : decode cX6_hear 95 = .ok (.dup, 1) := by decide +kernel
theorem dX6_hear_96 : decode cX6_hear 96 = .ok (.getfield 106, 3) := by decide +kernel
theorem dX6_hear_99 : decode cX6_hear 99 = .ok (.iconst 1, 1) := by decide +kernel
theorem dX6_hear_100 : decode cX6_hear 100 = .ok (.iadd, 1) := by decide +kernel
theorem dX6_hear_101 : decode cX6_hear 101 = .ok (.putfield 106, 3) := by decide +kernel
theorem dX6_hear_104 : decode cX6_hear 104 = .ok (.aload_n 0, 1) := by decide +kernel
theorem dX6_hear_105 : decode cX6_hear 105 = .ok (.getfield 106, 3) := by decide +kernel
theorem dX6_hear_108 : decode cX6_hear 108 = .ok (.ireturn, 1) := by decide +kernel
theorem dX6_forget_0 : decode cX6_forget 0 = .ok (.aload_n 0, 1) := by decide +kernel
theorem dX6_forget_1 : decode cX6_forget 1 = .ok (.getfield 106, 3) := by decide +kernel
theorem dX6_forget_4 : decode cX6_forget 4 = .ok (.istore_n 1, 1) := by decide +kernel
theorem dX6_forget_5 : decode cX6_forget 5 = .ok (.aload_n 0, 1) := by decide +kernel
theorem dX6_forget_6 : decode cX6_forget 6 = .ok (.iconst 0, 1) := by decide +kernel
theorem dX6_forget_7 : decode cX6_forget 7 = .ok (.putfield 106, 3) := by decide +kernel
theorem dX6_forget_10 : decode cX6_forget 10 = .ok (.iload_n 1, 1) := by decide +kernel
theorem dX6_forget_11 : decode cX6_forget 11 = .ok (.ireturn, 1) := by decide +kernel
set_option maxRecDepth 20000 in
theorem ggX6_isHeard_X6_think : GoodIn wsX6_isHeard wsX6_think := goodIn_r _ [11, 12, 13, 14, 6, 36, 37, 38, 39, 40, 41, 42, 43, 44, 45, 46, 47, 48, 49, 50, 51, 52, 53, 54, 55, 56, 57, 58, 59, 60, 61, 62, 63, 64, 65, 66, 67, 68, 69] (by decide +kernel) (by decide +kernel)
set_option maxRecDepth 20000 in
theorem gX6_isHeard_X6_think : GoodIn wsX6_isHeard (wsV RX6 160 RX6 yX6_think wsX6_think) := goodIn_app (goodIn_of _ (by decide +kernel)) ggX6_isHeard_X6_think
set_option maxRecDepth 20000 in
theorem ggX6_isHeard_X6_howAt : GoodIn wsX6_isHeard wsX6_howAt := goodIn_r _ [18, 19, 20, 21, 10, 22, 23, 24, 25, 26, 27, 28, 13, 6, 12, 14, 29, 30, 31, 32, 33, 34, 35, 36, 37, 38, 39, 40, 41, 42, 43, 44, 45, 46, 47, 48, 49, 50, 51, 52, 53, 54, 55, 56, 57, 58, 59, 60, 61, 62, 63, 64, 65, 66, 67, 68, 69] (by decide +kernel) (by decide +kernel)
set_option maxRecDepth 20000 in
theorem gX6_isHeard_X6_howAt : GoodIn wsX6_isHeard (wsV RX6 125 RX6 yX6_howAt wsX6_howAt) := goodIn_app (goodIn_of _ (by decide +kernel)) ggX6_isHeard_X6_howAt
theorem dX6_isHeard_0 : decode cX6_isHeard 0 = .ok (.iconst 1, 1) := by decide +kernel
theorem dX6_isHeard_1 : decode cX6_isHeard 1 = .ok (.istore_n 2, 1) := by decide +kernel
theorem dX6_isHeard_2 : decode cX6_isHeard 2 = .ok (.iconst 0, 1) := by decide +kernel
theorem dX6_isHeard_3 : decode cX6_isHeard 3 = .ok (.istore_n 3, 1) := by decide +kernel
theorem dX6_isHeard_4 : decode cX6_isHeard 4 = .ok (.iload_n 3, 1) := by decide +kernel
theorem dX6_isHeard_5 : decode cX6_isHeard 5 = .ok (.aload_n 0, 1) := by decide +kernel
theorem dX6_isHeard_6 : decode cX6_isHeard 6 = .ok (.getfield 106, 3) := by decide +kernel
theorem dX6_isHeard_9 : decode cX6_isHeard 9 = .ok (.if_icmp .ge 55, 3) := by decide +kernel
theorem dX6_isHeard_12 : decode cX6_isHeard 12 = .ok (.aload_n 0, 1) := by decide +kernel
theorem dX6_isHeard_13 : decode cX6_isHeard 13 = .ok (.iload_n 1, 1) := by decide +kernel
theorem dX6_isHeard_14 : decode cX6_isHeard 14 = .ok (.aload_n 0, 1) := by decide +kernel
theorem dX6_isHeard_15 : decode cX6_isHeard 15 = .ok (.getfield 28, 3) := by decide +kernel
theorem dX6_isHeard_18 : decode cX6_isHeard 18 = .ok (.iload_n 3, 1) := by decide +kernel
theorem dX6_isHeard_19 : decode cX6_isHeard 19 = .ok (.iaload, 1) := by decide +kernel
theorem dX6_isHeard_20 : decode cX6_isHeard 20 = .ok (.invokevirtual 160, 3) := by decide +kernel
theorem dX6_isHeard_23 : decode cX6_isHeard 23 = .ok (.iload_n 2, 1) := by decide +kernel
theorem dX6_isHeard_24 : decode cX6_isHeard 24 = .ok (.ifCond .eq 32, 3) := by decide +kernel
theorem dX6_isHeard_27 : decode cX6_isHeard 27 = .ok (.aload_n 0, 1) := by decide +kernel
theorem dX6_isHeard_28 : decode cX6_isHeard 28 = .ok (.aload_n 0, 1) := by decide +kernel
theorem dX6_isHeard_29 : decode cX6_isHeard 29 = .ok (.getfield 22, 3) := by decide +kernel
theorem dX6_isHeard_32 : decode cX6_isHeard 32 = .ok (.iload_n 3, 1) := by decide +kernel
theorem dX6_isHeard_33 : decode cX6_isHeard 33 = .ok (.iaload, 1) := by decide +kernel
theorem dX6_isHeard_34 : decode cX6_isHeard 34 = .ok (.aload_n 0, 1) := by decide +kernel
theorem dX6_isHeard_35 : decode cX6_isHeard 35 = .ok (.getfield 25, 3) := by decide +kernel
theorem dX6_isHeard_38 : decode cX6_isHeard 38 = .ok (.iload_n 3, 1) := by decide +kernel
theorem dX6_isHeard_39 : decode cX6_isHeard 39 = .ok (.iaload, 1) := by decide +kernel
theorem dX6_isHeard_40 : decode cX6_isHeard 40 = .ok (.invokevirtual 125, 3) := by decide +kernel
theorem dX6_isHeard_43 : decode cX6_isHeard 43 = .ok (.aload_n 0, 1) := by decide +kernel
theorem dX6_isHeard_44 : decode cX6_isHeard 44 = .ok (.getfield 31, 3) := by decide +kernel
theorem dX6_isHeard_47 : decode cX6_isHeard 47 = .ok (.iload_n 3, 1) := by decide +kernel
theorem dX6_isHeard_48 : decode cX6_isHeard 48 = .ok (.iaload, 1) := by decide +kernel
theorem dX6_isHeard_49 : decode cX6_isHeard 49 = .ok (.if_icmp .ne 7, 3) := by decide +kernel
theorem dX6_isHeard_52 : decode cX6_isHeard 52 = .ok (.iconst 1, 1) := by decide +kernel
theorem dX6_isHeard_53 : decode cX6_isHeard 53 = .ok (.goto 4, 3) := by decide +kernel
theorem dX6_isHeard_56 : decode cX6_isHeard 56 = .ok (.iconst 0, 1) := by decide +kernel
theorem dX6_isHeard_57 : decode cX6_isHeard 57 = .ok (.istore_n 2, 1) := by decide +kernel
theorem dX6_isHeard_58 : decode cX6_isHeard 58 = .ok (.iinc 3 1, 3) := by decide +kernel
theorem dX6_isHeard_61 : decode cX6_isHeard 61 = .ok (.goto (-57), 3) := by decide +kernel
theorem dX6_isHeard_64 : decode cX6_isHeard 64 = .ok (.aload_n 0, 1) := by decide +kernel
theorem dX6_isHeard_65 : decode cX6_isHeard 65 = .ok (.iconst 0, 1) := by decide +kernel
theorem dX6_isHeard_66 : decode cX6_isHeard 66 = .ok (.putfield 109, 3) := by decide +kernel
theorem dX6_isHeard_69 : decode cX6_isHeard 69 = .ok (.iload_n 2, 1) := by decide +kernel
theorem dX6_isHeard_70 : decode cX6_isHeard 70 = .ok (.ireturn, 1) := by decide +kernel
set_option maxRecDepth 20000 in
theorem ggX6_hoursNow_X6_isHeard : GoodIn wsX6_hoursNow wsX6_isHeard := goodIn_r _ [5, 6, 7, 8, 9, 10, 11, 12, 13, 14, 4, 15, 16, 17, 18, 19, 20, 21, 22, 23, 24, 25, 26, 27, 28, 29, 30, 31, 32, 33, 34, 35, 36, 37, 38, 39, 40, 41, 42, 43, 44, 45, 46, 47, 48, 49, 50, 51, 52, 53, 54, 55, 56, 57, 58, 59, 60, 61, 62, 63, 64, 65, 66, 67, 68, 69, 70, 71, 72, 73] (by decide +kernel) (by decide +kernel)
set_option maxRecDepth 20000 in
theorem gX6_hoursNow_X6_isHeard : GoodIn wsX6_hoursNow (wsV RX6 170 RX6 yX6_isHeard wsX6_isHeard) := goodIn_app (goodIn_of _ (by decide +kernel)) ggX6_hoursNow_X6_isHeard
theorem dX6_hoursNow_0 : decode cX6_hoursNow 0 = .ok (.iconst 0, 1) := by decide +kernel
theorem dX6_hoursNow_1 : decode cX6_hoursNow 1 = .ok (.istore_n 1, 1) := by decide +kernel
theorem dX6_hoursNow_2 : decode cX6_hoursNow 2 = .ok (.iconst 0, 1) := by decide +kernel
theorem dX6_hoursNow_3 : decode cX6_hoursNow 3 = .ok (.istore_n 2, 1) := by decide +kernel
theorem dX6_hoursNow_4 : decode cX6_hoursNow 4 = .ok (.iload_n 2, 1) := by decide +kernel
theorem dX6_hoursNow_5 : decode cX6_hoursNow 5 = .ok (.bipush 9, 2) := by decide +kernel
theorem dX6_hoursNow_7 : decode cX6_hoursNow 7 = .ok (.if_icmp .gt 27, 3) := by decide +kernel
theorem dX6_hoursNow_10 : decode cX6_hoursNow 10 = .ok (.iload_n 1, 1) := by decide +kernel
theorem dX6_hoursNow_11 : decode cX6_hoursNow 11 = .ok (.aload_n 0, 1) := by decide +kernel
theorem dX6_hoursNow_12 : decode cX6_hoursNow 12 = .ok (.iload_n 2, 1) := by decide +kernel
theorem dX6_hoursNow_13 : decode cX6_hoursNow 13 = .ok (.invokevirtual 170, 3) := by decide +kernel
theorem dX6_hoursNow_16 : decode cX6_hoursNow 16 = .ok (.ifCond .eq 9, 3) := by decide +kernel
theorem dX6_hoursNow_19 : decode cX6_hoursNow 19 = .ok (.iconst 1, 1) := by decide +kernel
theorem dX6_hoursNow_20 : decode cX6_hoursNow 20 = .ok (.iload_n 2, 1) := by decide +kernel
theorem dX6_hoursNow_21 : decode cX6_hoursNow 21 = .ok (.ishl, 1) := by decide +kernel
theorem dX6_hoursNow_22 : decode cX6_hoursNow 22 = .ok (.goto 4, 3) := by decide +kernel
theorem dX6_hoursNow_25 : decode cX6_hoursNow 25 = .ok (.iconst 0, 1) := by decide +kernel
theorem dX6_hoursNow_26 : decode cX6_hoursNow 26 = .ok (.ior, 1) := by decide +kernel
theorem dX6_hoursNow_27 : decode cX6_hoursNow 27 = .ok (.istore_n 1, 1) := by decide +kernel
theorem dX6_hoursNow_28 : decode cX6_hoursNow 28 = .ok (.iinc 2 1, 3) := by decide +kernel
theorem dX6_hoursNow_31 : decode cX6_hoursNow 31 = .ok (.goto (-27), 3) := by decide +kernel
theorem dX6_hoursNow_34 : decode cX6_hoursNow 34 = .ok (.iload_n 1, 1) := by decide +kernel
theorem dX6_hoursNow_35 : decode cX6_hoursNow 35 = .ok (.ireturn, 1) := by decide +kernel
set_option maxRecDepth 20000 in
theorem ggX6_hours_X6_hoursNow : GoodIn wsX6_hours wsX6_hoursNow := goodIn_r _ [6, 7, 8, 9, 5, 10, 11, 12, 13, 14, 15, 16, 17, 18, 19, 20, 21, 22, 23, 24, 25, 26, 27, 28, 29, 30, 31, 32, 33, 34, 35, 36, 37, 38, 39, 40, 41, 42, 43, 44, 45, 46, 47, 48, 49, 50, 51, 52, 53, 54, 55, 56, 57, 58, 59, 60, 61, 62, 63, 64, 65, 66, 67, 68, 69, 70, 71, 72, 73, 74, 75, 76, 77, 78] (by decide +kernel) (by decide +kernel)
set_option maxRecDepth 20000 in
theorem gX6_hours_X6_hoursNow : GoodIn wsX6_hours (wsV RX6 173 RX6 yX6_hoursNow wsX6_hoursNow) := goodIn_app (goodIn_of _ (by decide +kernel)) ggX6_hours_X6_hoursNow
theorem dX6_hours_0 : decode cX6_hours 0 = .ok (.aload_n 0, 1) := by decide +kernel
theorem dX6_hours_1 : decode cX6_hours 1 = .ok (.getfield 94, 3) := by decide +kernel
theorem dX6_hours_4 : decode cX6_hours 4 = .ok (.ifCond .ne 8, 3) := by decide +kernel
theorem dX6_hours_7 : decode cX6_hours 7 = .ok (.bipush (-103), 2) := by decide +kernel
theorem dX6_hours_9 : decode cX6_hours 9 = .ok (.goto 7, 3) := by decide +kernel
theorem dX6_hours_12 : decode cX6_hours 12 = .ok (.aload_n 0, 1) := by decide +kernel
theorem dX6_hours_13 : decode cX6_hours 13 = .ok (.invokevirtual 173, 3) := by decide +kernel
theorem dX6_hours_16 : decode cX6_hours 16 = .ok (.ireturn, 1) := by decide +kernel
set_option maxRecDepth 20000 in
theorem ggX6_worstIn_X6_think : GoodIn wsX6_worstIn wsX6_think := goodIn_r _ [8, 9, 10, 11, 3, 36, 37, 38, 39, 40, 41, 42, 43, 44, 45, 46, 47, 48, 49, 50, 51, 52, 53, 54, 55, 56, 57, 58, 59, 60, 61, 62, 63, 64, 65, 66, 67, 68, 69] (by decide +kernel) (by decide +kernel)
set_option maxRecDepth 20000 in
theorem gX6_worstIn_X6_think : GoodIn wsX6_worstIn (wsV RX6 160 RX6 yX6_think wsX6_think) := goodIn_app (goodIn_of _ (by decide +kernel)) ggX6_worstIn_X6_think
set_option maxRecDepth 20000 in
theorem ggX6_worstIn_X6_howAt : GoodIn wsX6_worstIn wsX6_howAt := goodIn_r _ [15, 16, 17, 18, 7, 19, 20, 21, 22, 23, 24, 25, 10, 3, 9, 11, 26, 27, 28, 29, 30, 31, 32, 36, 37, 38, 39, 40, 41, 42, 43, 44, 45, 46, 47, 48, 49, 50, 51, 52, 53, 54, 55, 56, 57, 58, 59, 60, 61, 62, 63, 64, 65, 66, 67, 68, 69] (by decide +kernel) (by decide +kernel)
set_option maxRecDepth 20000 in
theorem gX6_worstIn_X6_howAt : GoodIn wsX6_worstIn (wsV RX6 125 RX6 yX6_howAt wsX6_howAt) := goodIn_app (goodIn_of _ (by decide +kernel)) ggX6_worstIn_X6_howAt
set_option maxRecDepth 20000 in
theorem ggX6_worstIn_X6_isIn : GoodIn wsX6_worstIn wsX6_isIn := goodIn_r _ [35] (by decide +kernel) (by decide +kernel)
set_option maxRecDepth 20000 in
theorem gX6_worstIn_X6_isIn : GoodIn wsX6_worstIn (va_wsS RX6 150 yX6_isIn wsX6_isIn) := goodIn_app (goodIn_of _ (by decide +kernel)) ggX6_worstIn_X6_isIn
theorem dX6_worstIn_0 : decode cX6_worstIn 0 = .ok (.iconst 0, 1) := by decide +kernel
theorem dX6_worstIn_1 : decode cX6_worstIn 1 = .ok (.istore 4, 2) := by decide +kernel
theorem dX6_worstIn_3 : decode cX6_worstIn 3 = .ok (.iconst 0, 1) := by decide +kernel
theorem dX6_worstIn_4 : decode cX6_worstIn 4 = .ok (.istore 5, 2) := by decide +kernel
theorem dX6_worstIn_6 : decode cX6_worstIn 6 = .ok (.iconst 0, 1) := by decide +kernel
theorem dX6_worstIn_7 : decode cX6_worstIn 7 = .ok (.istore 6, 2) := by decide +kernel
theorem dX6_worstIn_9 : decode cX6_worstIn 9 = .ok (.iconst 0, 1) := by decide +kernel
theorem dX6_worstIn_10 : decode cX6_worstIn 10 = .ok (.istore 7, 2) := by decide +kernel
theorem dX6_worstIn_12 : decode cX6_worstIn 12 = .ok (.iload 7, 2) := by decide +kernel
theorem dX6_worstIn_14 : decode cX6_worstIn 14 = .ok (.bipush 9, 2) := by decide +kernel
theorem dX6_worstIn_16 : decode cX6_worstIn 16 = .ok (.if_icmp .gt 108, 3) := by decide +kernel
theorem dX6_worstIn_19 : decode cX6_worstIn 19 = .ok (.aload_n 0, 1) := by decide +kernel
theorem dX6_worstIn_20 : decode cX6_worstIn 20 = .ok (.iload 7, 2) := by decide +kernel
theorem dX6_worstIn_22 : decode cX6_worstIn 22 = .ok (.aload_n 0, 1) := by decide +kernel
theorem dX6_worstIn_23 : decode cX6_worstIn 23 = .ok (.getfield 28, 3) := by decide +kernel
theorem dX6_worstIn_26 : decode cX6_worstIn 26 = .ok (.aload_n 0, 1) := by decide +kernel
theorem dX6_worstIn_27 : decode cX6_worstIn 27 = .ok (.getfield 106, 3) := by decide +kernel
theorem dX6_worstIn_30 : decode cX6_worstIn 30 = .ok (.iconst 1, 1) := by decide +kernel
theorem dX6_worstIn_31 : decode cX6_worstIn 31 = .ok (.isub, 1) := by decide +kernel
theorem dX6_worstIn_32 : decode cX6_worstIn 32 = .ok (.iaload, 1) := by decide +kernel
theorem dX6_worstIn_33 : decode cX6_worstIn 33 = .ok (.invokevirtual 160, 3) := by decide +kernel
theorem dX6_worstIn_36 : decode cX6_worstIn 36 = .ok (.aload_n 0, 1) := by decide +kernel
theorem dX6_worstIn_37 : decode cX6_worstIn 37 = .ok (.iload_n 2, 1) := by decide +kernel
theorem dX6_worstIn_38 : decode cX6_worstIn 38 = .ok (.iload_n 3, 1) := by decide +kernel
theorem dX6_worstIn_39 : decode cX6_worstIn 39 = .ok (.invokevirtual 125, 3) := by decide +kernel
theorem dX6_worstIn_42 : decode cX6_worstIn 42 = .ok (.istore 8, 2) := by decide +kernel
theorem dX6_worstIn_44 : decode cX6_worstIn 44 = .ok (.iload 4, 2) := by decide +kernel
theorem dX6_worstIn_46 : decode cX6_worstIn 46 = .ok (.iload_n 1, 1) := by decide +kernel
theorem dX6_worstIn_47 : decode cX6_worstIn 47 = .ok (.iload 7, 2) := by decide +kernel
theorem dX6_worstIn_49 : decode cX6_worstIn 49 = .ok (.invokestatic 150, 3) := by decide +kernel
theorem dX6_worstIn_52 : decode cX6_worstIn 52 = .ok (.ifCond .eq 12, 3) := by decide +kernel
theorem dX6_worstIn_55 : decode cX6_worstIn 55 = .ok (.iload 8, 2) := by decide +kernel
theorem dX6_worstIn_57 : decode cX6_worstIn 57 = .ok (.ifCond .ne 7, 3) := by decide +kernel
theorem dX6_worstIn_60 : decode cX6_worstIn 60 = .ok (.iconst 1, 1) := by decide +kernel
theorem dX6_worstIn_61 : decode cX6_worstIn 61 = .ok (.goto 4, 3) := by decide +kernel
theorem dX6_worstIn_64 : decode cX6_worstIn 64 = .ok (.iconst 0, 1) := by decide +kernel
theorem dX6_worstIn_65 : decode cX6_worstIn 65 = .ok (.iadd, 1) := by decide +kernel
theorem dX6_worstIn_66 : decode cX6_worstIn 66 = .ok (.istore 4, 2) := by decide +kernel
theorem dX6_worstIn_68 : decode cX6_worstIn 68 = .ok (.iload 5, 2) := by decide +kernel
theorem dX6_worstIn_70 : decode cX6_worstIn 70 = .ok (.iload_n 1, 1) := by decide +kernel
theorem dX6_worstIn_71 : decode cX6_worstIn 71 = .ok (.iload 7, 2) := by decide +kernel
theorem dX6_worstIn_73 : decode cX6_worstIn 73 = .ok (.invokestatic 150, 3) := by decide +kernel
theorem dX6_worstIn_76 : decode cX6_worstIn 76 = .ok (.ifCond .eq 13, 3) := by decide +kernel
theorem dX6_worstIn_79 : decode cX6_worstIn 79 = .ok (.iload 8, 2) := by decide +kernel
theorem dX6_worstIn_81 : decode cX6_worstIn 81 = .ok (.iconst 1, 1) := by decide +kernel
theorem dX6_worstIn_82 : decode cX6_worstIn 82 = .ok (.if_icmp .ne 7, 3) := by decide +kernel
theorem dX6_worstIn_85 : decode cX6_worstIn 85 = .ok (.iconst 1, 1) := by decide +kernel
theorem dX6_worstIn_86 : decode cX6_worstIn 86 = .ok (.goto 4, 3) := by decide +kernel
theorem dX6_worstIn_89 : decode cX6_worstIn 89 = .ok (.iconst 0, 1) := by decide +kernel
theorem dX6_worstIn_90 : decode cX6_worstIn 90 = .ok (.iadd, 1) := by decide +kernel
theorem dX6_worstIn_91 : decode cX6_worstIn 91 = .ok (.istore 5, 2) := by decide +kernel
theorem dX6_worstIn_93 : decode cX6_worstIn 93 = .ok (.iload 6, 2) := by decide +kernel
theorem dX6_worstIn_95 : decode cX6_worstIn 95 = .ok (.iload_n 1, 1) := by decide +kernel
theorem dX6_worstIn_96 : decode cX6_worstIn 96 = .ok (.iload 7, 2) := by decide +kernel
theorem dX6_worstIn_98 : decode cX6_worstIn 98 = .ok (.invokestatic 150, 3) := by decide +kernel
theorem dX6_worstIn_101 : decode cX6_worstIn 101 = .ok (.ifCond .eq 13, 3) := by decide +kernel
theorem dX6_worstIn_104 : decode cX6_worstIn 104 = .ok (.iload 8, 2) := by decide +kernel
theorem dX6_worstIn_106 : decode cX6_worstIn 106 = .ok (.iconst 2, 1) := by decide +kernel
theorem dX6_worstIn_107 : decode cX6_worstIn 107 = .ok (.if_icmp .ne 7, 3) := by decide +kernel
theorem dX6_worstIn_110 : decode cX6_worstIn 110 = .ok (.iconst 1, 1) := by decide +kernel
theorem dX6_worstIn_111 : decode cX6_worstIn 111 = .ok (.goto 4, 3) := by decide +kernel
theorem dX6_worstIn_114 : decode cX6_worstIn 114 = .ok (.iconst 0, 1) := by decide +kernel
theorem dX6_worstIn_115 : decode cX6_worstIn 115 = .ok (.iadd, 1) := by decide +kernel
theorem dX6_worstIn_116 : decode cX6_worstIn 116 = .ok (.istore 6, 2) := by decide +kernel
theorem dX6_worstIn_118 : decode cX6_worstIn 118 = .ok (.iinc 7 1, 3) := by decide +kernel
theorem dX6_worstIn_121 : decode cX6_worstIn 121 = .ok (.goto (-109), 3) := by decide +kernel
theorem dX6_worstIn_124 : decode cX6_worstIn 124 = .ok (.aload_n 0, 1) := by decide +kernel
theorem dX6_worstIn_125 : decode cX6_worstIn 125 = .ok (.iconst 0, 1) := by decide +kernel
theorem dX6_worstIn_126 : decode cX6_worstIn 126 = .ok (.putfield 109, 3) := by decide +kernel
theorem dX6_worstIn_129 : decode cX6_worstIn 129 = .ok (.iload 4, 2) := by decide +kernel
theorem dX6_worstIn_131 : decode cX6_worstIn 131 = .ok (.iload 5, 2) := by decide +kernel
theorem dX6_worstIn_133 : decode cX6_worstIn 133 = .ok (.if_icmp .le 8, 3) := by decide +kernel
theorem dX6_worstIn_136 : decode cX6_worstIn 136 = .ok (.iload 4, 2) := by decide +kernel
theorem dX6_worstIn_138 : decode cX6_worstIn 138 = .ok (.goto 5, 3) := by decide +kernel
theorem dX6_worstIn_141 : decode cX6_worstIn 141 = .ok (.iload 5, 2) := by decide +kernel
theorem dX6_worstIn_143 : decode cX6_worstIn 143 = .ok (.istore 7, 2) := by decide +kernel
theorem dX6_worstIn_145 : decode cX6_worstIn 145 = .ok (.iload 7, 2) := by decide +kernel
theorem dX6_worstIn_147 : decode cX6_worstIn 147 = .ok (.iload 6, 2) := by decide +kernel
theorem dX6_worstIn_149 : decode cX6_worstIn 149 = .ok (.if_icmp .le 8, 3) := by decide +kernel
theorem dX6_worstIn_152 : decode cX6_worstIn 152 = .ok (.iload 7, 2) := by decide +kernel
theorem dX6_worstIn_154 : decode cX6_worstIn 154 = .ok (.goto 5, 3) := by decide +kernel
theorem dX6_worstIn_157 : decode cX6_worstIn 157 = .ok (.iload 6, 2) := by decide +kernel
theorem dX6_worstIn_159 : decode cX6_worstIn 159 = .ok (.ireturn, 1) := by decide +kernel
set_option maxRecDepth 20000 in
theorem ggX6_askNow_X6_hoursNow : GoodIn wsX6_askNow wsX6_hoursNow := goodIn_r _ [8, 9, 10, 11, 7, 12, 1, 13, 14, 15, 16, 17, 18, 19, 20, 21, 22, 23, 24, 25, 26, 27, 28, 29, 30, 31, 32, 33, 34, 35, 36, 37, 38, 39, 40, 41, 42, 43, 44, 45, 53, 54, 55, 56, 57, 58, 59, 60, 61, 62, 63, 64, 65, 66, 67, 68, 69, 70, 71, 72, 73, 74, 75, 76, 77, 78, 79, 80, 81, 82, 83, 84, 85, 86] (by decide +kernel) (by decide +kernel)
set_option maxRecDepth 20000 in
theorem gX6_askNow_X6_hoursNow : GoodIn wsX6_askNow (wsV RX6 173 RX6 yX6_hoursNow wsX6_hoursNow) := goodIn_app (goodIn_of _ (by decide +kernel)) ggX6_askNow_X6_hoursNow
set_option maxRecDepth 20000 in
theorem ggX6_askNow_X6_worstIn : GoodIn wsX6_askNow wsX6_worstIn := goodIn_r _ [49, 13, 1, 17, 18, 19, 20, 7, 21, 22, 23, 24, 25, 26, 27, 28, 29, 30, 31, 32, 33, 34, 35, 36, 37, 38, 39, 40, 41, 42, 43, 44, 45, 50, 51, 52, 53, 54, 55, 56, 57, 58, 59, 60, 61, 62, 63, 64, 65, 66, 67, 68, 69, 70, 71, 72, 73, 74, 75, 76, 77, 78, 79, 80, 81, 82, 83, 84, 85, 86] (by decide +kernel) (by decide +kernel)
set_option maxRecDepth 20000 in
theorem gX6_askNow_X6_worstIn : GoodIn wsX6_askNow (wsV RX6 177 RX6 yX6_worstIn wsX6_worstIn) := goodIn_app (goodIn_of _ (by decide +kernel)) ggX6_askNow_X6_worstIn
theorem dX6_askNow_0 : decode cX6_askNow 0 = .ok (.aload_n 0, 1) := by decide +kernel
theorem dX6_askNow_1 : decode cX6_askNow 1 = .ok (.getfield 106, 3) := by decide +kernel
theorem dX6_askNow_4 : decode cX6_askNow 4 = .ok (.ifCond .ne 7, 3) := by decide +kernel
theorem dX6_askNow_7 : decode cX6_askNow 7 = .ok (.iconst 0, 1) := by decide +kernel
theorem dX6_askNow_8 : decode cX6_askNow 8 = .ok (.goto 7, 3) := by decide +kernel
theorem dX6_askNow_11 : decode cX6_askNow 11 = .ok (.aload_n 0, 1) := by decide +kernel
theorem dX6_askNow_12 : decode cX6_askNow 12 = .ok (.invokevirtual 173, 3) := by decide +kernel
theorem dX6_askNow_15 : decode cX6_askNow 15 = .ok (.istore_n 2, 1) := by decide +kernel
theorem dX6_askNow_16 : decode cX6_askNow 16 = .ok (.iconst (-1), 1) := by decide +kernel
theorem dX6_askNow_17 : decode cX6_askNow 17 = .ok (.istore_n 3, 1) := by decide +kernel
theorem dX6_askNow_18 : decode cX6_askNow 18 = .ok (.ldc 176, 2) := by decide +kernel
theorem dX6_askNow_20 : decode cX6_askNow 20 = .ok (.istore 4, 2) := by decide +kernel
theorem dX6_askNow_22 : decode cX6_askNow 22 = .ok (.iconst 0, 1) := by decide +kernel
theorem dX6_askNow_23 : decode cX6_askNow 23 = .ok (.istore 5, 2) := by decide +kernel
theorem dX6_askNow_25 : decode cX6_askNow 25 = .ok (.iload 5, 2) := by decide +kernel
theorem dX6_askNow_27 : decode cX6_askNow 27 = .ok (.aload_n 0, 1) := by decide +kernel
theorem dX6_askNow_28 : decode cX6_askNow 28 = .ok (.getfield 94, 3) := by decide +kernel
theorem dX6_askNow_31 : decode cX6_askNow 31 = .ok (.if_icmp .ge 53, 3) := by decide +kernel
theorem dX6_askNow_34 : decode cX6_askNow 34 = .ok (.iload_n 2, 1) := by decide +kernel
theorem dX6_askNow_35 : decode cX6_askNow 35 = .ok (.ifCond .eq 49, 3) := by decide +kernel
theorem dX6_askNow_38 : decode cX6_askNow 38 = .ok (.aload_n 0, 1) := by decide +kernel
theorem dX6_askNow_39 : decode cX6_askNow 39 = .ok (.iload_n 2, 1) := by decide +kernel
theorem dX6_askNow_40 : decode cX6_askNow 40 = .ok (.iload 5, 2) := by decide +kernel
theorem dX6_askNow_42 : decode cX6_askNow 42 = .ok (.iload_n 1, 1) := by decide +kernel
theorem dX6_askNow_43 : decode cX6_askNow 43 = .ok (.invokevirtual 177, 3) := by decide +kernel
theorem dX6_askNow_46 : decode cX6_askNow 46 = .ok (.istore 6, 2) := by decide +kernel
theorem dX6_askNow_48 : decode cX6_askNow 48 = .ok (.iload 6, 2) := by decide +kernel
theorem dX6_askNow_50 : decode cX6_askNow 50 = .ok (.iload 4, 2) := by decide +kernel
theorem dX6_askNow_52 : decode cX6_askNow 52 = .ok (.if_icmp .ge 8, 3) := by decide +kernel
theorem dX6_askNow_55 : decode cX6_askNow 55 = .ok (.iload 5, 2) := by decide +kernel
theorem dX6_askNow_57 : decode cX6_askNow 57 = .ok (.goto 4, 3) := by decide +kernel
theorem dX6_askNow_60 : decode cX6_askNow 60 = .ok (.iload_n 3, 1) := by decide +kernel
theorem dX6_askNow_61 : decode cX6_askNow 61 = .ok (.istore_n 3, 1) := by decide +kernel
theorem dX6_askNow_62 : decode cX6_askNow 62 = .ok (.iload 6, 2) := by decide +kernel
theorem dX6_askNow_64 : decode cX6_askNow 64 = .ok (.iload 4, 2) := by decide +kernel
theorem dX6_askNow_66 : decode cX6_askNow 66 = .ok (.if_icmp .ge 8, 3) := by decide +kernel
theorem dX6_askNow_69 : decode cX6_askNow 69 = .ok (.iload 6, 2) := by decide +kernel
theorem dX6_askNow_71 : decode cX6_askNow 71 = .ok (.goto 5, 3) := by decide +kernel
theorem dX6_askNow_74 : decode cX6_askNow 74 = .ok (.iload 4, 2) := by decide +kernel
theorem dX6_askNow_76 : decode cX6_askNow 76 = .ok (.istore 4, 2) := by decide +kernel
theorem dX6_askNow_78 : decode cX6_askNow 78 = .ok (.iinc 5 1, 3) := by decide +kernel
theorem dX6_askNow_81 : decode cX6_askNow 81 = .ok (.goto (-56), 3) := by decide +kernel
theorem dX6_askNow_84 : decode cX6_askNow 84 = .ok (.iload_n 3, 1) := by decide +kernel
theorem dX6_askNow_85 : decode cX6_askNow 85 = .ok (.ireturn, 1) := by decide +kernel
set_option maxRecDepth 20000 in
theorem ggX6_ask_X6_isHour : GoodIn wsX6_ask wsX6_isHour := goodIn_r _ [5, 6, 7, 4, 8] (by decide +kernel) (by decide +kernel)
set_option maxRecDepth 20000 in
theorem gX6_ask_X6_isHour : GoodIn wsX6_ask (va_wsS RX6 141 yX6_isHour wsX6_isHour) := goodIn_app (goodIn_of _ (by decide +kernel)) ggX6_ask_X6_isHour
set_option maxRecDepth 20000 in
theorem ggX6_ask_X6_askNow : GoodIn wsX6_ask wsX6_askNow := goodIn_r _ [12, 13, 14, 1, 15, 16, 17, 4, 18, 19, 20, 21, 22, 23, 24, 25, 26, 27, 28, 29, 30, 31, 32, 33, 34, 35, 36, 37, 38, 39, 40, 41, 42, 43, 44, 45, 46, 47, 48, 49, 50, 51, 52, 53, 54, 55, 56, 57, 58, 59, 60, 61, 62, 63, 64, 65, 66, 67, 68, 69, 70, 71, 72, 73, 74, 75, 76, 77, 78, 79, 80, 81, 82, 83, 84, 85, 86, 87, 88, 89, 90, 91, 92, 93, 94, 95, 96] (by decide +kernel) (by decide +kernel)
set_option maxRecDepth 20000 in
theorem gX6_ask_X6_askNow : GoodIn wsX6_ask (wsV RX6 181 RX6 yX6_askNow wsX6_askNow) := goodIn_app (goodIn_of _ (by decide +kernel)) ggX6_ask_X6_askNow
theorem dX6_ask_0 : decode cX6_ask 0 = .ok (.iload_n 1, 1) := by decide +kernel
theorem dX6_ask_1 : decode cX6_ask 1 = .ok (.invokestatic 141, 3) := by decide +kernel
theorem dX6_ask_4 : decode cX6_ask 4 = .ok (.ifCond .ne 6, 3) := by decide +kernel
theorem dX6_ask_7 : decode cX6_ask 7 = .ok (.bipush (-102), 2) := by decide +kernel
theorem dX6_ask_9 : decode cX6_ask 9 = .ok (.ireturn, 1) := by decide +kernel
theorem dX6_ask_10 : decode cX6_ask 10 = .ok (.aload_n 0, 1) := by decide +kernel
theorem dX6_ask_11 : decode cX6_ask 11 = .ok (.getfield 94, 3) := by decide +kernel
theorem dX6_ask_14 : decode cX6_ask 14 = .ok (.ifCond .ne 8, 3) := by decide +kernel
theorem dX6_ask_17 : decode cX6_ask 17 = .ok (.bipush (-103), 2) := by decide +kernel
theorem dX6_ask_19 : decode cX6_ask 19 = .ok (.goto 8, 3) := by decide +kernel
theorem dX6_ask_22 : decode cX6_ask 22 = .ok (.aload_n 0, 1) := by decide +kernel
theorem dX6_ask_23 : decode cX6_ask 23 = .ok (.iload_n 1, 1) := by decide +kernel
theorem dX6_ask_24 : decode cX6_ask 24 = .ok (.invokevirtual 181, 3) := by decide +kernel
theorem dX6_ask_27 : decode cX6_ask 27 = .ok (.ireturn, 1) := by decide +kernel
theorem dX6_draw_0 : decode cX6_draw 0 = .ok (.aload_n 0, 1) := by decide +kernel
theorem dX6_draw_1 : decode cX6_draw 1 = .ok (.ldc2_w 184, 3) := by decide +kernel
theorem dX6_draw_4 : decode cX6_draw 4 = .ok (.aload_n 0, 1) := by decide +kernel
theorem dX6_draw_5 : decode cX6_draw 5 = .ok (.getfield 186, 3) := by decide +kernel
theorem dX6_draw_8 : decode cX6_draw 8 = .ok (.lmul, 1) := by decide +kernel
theorem dX6_draw_9 : decode cX6_draw 9 = .ok (.ldc2_w 190, 3) := by decide +kernel
theorem dX6_draw_12 : decode cX6_draw 12 = .ok (.ladd, 1) := by decide +kernel
theorem dX6_draw_13 : decode cX6_draw 13 = .ok (.ldc2_w 192, 3) := by decide +kernel
theorem dX6_draw_16 : decode cX6_draw 16 = .ok (.land, 1) := by decide +kernel
theorem dX6_draw_17 : decode cX6_draw 17 = .ok (.putfield 186, 3) := by decide +kernel
theorem dX6_draw_20 : decode cX6_draw 20 = .ok (.aload_n 0, 1) := by decide +kernel
theorem dX6_draw_21 : decode cX6_draw 21 = .ok (.getfield 186, 3) := by decide +kernel
theorem dX6_draw_24 : decode cX6_draw 24 = .ok (.ldc2_w 194, 3) := by decide +kernel
theorem dX6_draw_27 : decode cX6_draw 27 = .ok (.ldiv, 1) := by decide +kernel
theorem dX6_draw_28 : decode cX6_draw 28 = .ok (.iload_n 1, 1) := by decide +kernel
theorem dX6_draw_29 : decode cX6_draw 29 = .ok (.i2l, 1) := by decide +kernel
theorem dX6_draw_30 : decode cX6_draw 30 = .ok (.lrem, 1) := by decide +kernel
theorem dX6_draw_31 : decode cX6_draw 31 = .ok (.l2i, 1) := by decide +kernel
theorem dX6_draw_32 : decode cX6_draw 32 = .ok (.ireturn, 1) := by decide +kernel
set_option maxRecDepth 20000 in
theorem ggX6_weeksNow_X6_draw : GoodIn wsX6_weeksNow wsX6_draw := goodIn_r _ [9, 10, 3, 11, 12, 13, 46, 47, 48, 49, 50, 51, 52, 53, 54, 55, 56, 57, 58, 59, 60, 61, 62, 63, 64, 65, 66, 67, 68, 69, 70, 71, 72, 73, 74, 75, 76, 77, 78, 79] (by decide +kernel) (by decide +kernel)
set_option maxRecDepth 20000 in
theorem gX6_weeksNow_X6_draw : GoodIn wsX6_weeksNow (wsV RX6 196 RX6 yX6_draw wsX6_draw) := goodIn_app (goodIn_of _ (by decide +kernel)) ggX6_weeksNow_X6_draw
set_option maxRecDepth 20000 in
theorem ggX6_weeksNow_X6_hoursAll : GoodIn wsX6_weeksNow wsX6_hoursAll := goodIn_r _ [17, 18, 19, 20, 21, 8, 22, 23, 24, 25, 26, 27, 28, 29, 30, 31, 32, 33, 34, 35, 36, 4, 37, 2, 38, 39, 40, 41, 42, 43, 44, 45, 46, 47, 48, 49, 50, 51, 52, 53, 54, 55, 56, 57, 58, 59, 60, 61, 62, 63, 64, 65, 66, 67, 68, 69, 70, 71, 72, 73, 74, 75, 76, 77, 78, 79] (by decide +kernel) (by decide +kernel)
set_option maxRecDepth 20000 in
theorem gX6_weeksNow_X6_hoursAll : GoodIn wsX6_weeksNow (wsV RX6 164 RX6 yX6_hoursAll wsX6_hoursAll) := goodIn_app (goodIn_of _ (by decide +kernel)) ggX6_weeksNow_X6_hoursAll
set_option maxRecDepth 20000 in
theorem ggX6_weeksNow_X6_tideAt : GoodIn wsX6_weeksNow wsX6_tideAt := goodIn_r _ [36, 4, 37, 2, 38, 46, 47, 48, 49, 50, 51, 52, 53, 54, 55, 56, 57, 58, 59, 60, 61, 62, 63, 64, 65, 66, 67, 68, 69, 70, 71, 72, 73, 74, 75, 76, 77, 78, 79] (by decide +kernel) (by decide +kernel)
set_option maxRecDepth 20000 in
theorem gX6_weeksNow_X6_tideAt : GoodIn wsX6_weeksNow (wsV RX6 112 RX6 yX6_tideAt wsX6_tideAt) := goodIn_app (goodIn_of _ (by decide +kernel)) ggX6_weeksNow_X6_tideAt
theorem dX6_weeksNow_0 : decode cX6_weeksNow 0 = .ok (.iconst 0, 1) := by decide +kernel
theorem dX6_weeksNow_1 : decode cX6_weeksNow 1 = .ok (.istore 4, 2) := by decide +kernel
theorem dX6_weeksNow_3 : decode cX6_weeksNow 3 = .ok (.iload 4, 2) := by decide +kernel
theorem dX6_weeksNow_5 : decode cX6_weeksNow 5 = .ok (.bipush 7, 2) := by decide +kernel
theorem dX6_weeksNow_7 : decode cX6_weeksNow 7 = .ok (.if_icmp .ge 23, 3) := by decide +kernel
theorem dX6_weeksNow_10 : decode cX6_weeksNow 10 = .ok (.aload_n 0, 1) := by decide +kernel
theorem dX6_weeksNow_11 : decode cX6_weeksNow 11 = .ok (.getfield 38, 3) := by decide +kernel
theorem dX6_weeksNow_14 : decode cX6_weeksNow 14 = .ok (.iload 4, 2) := by decide +kernel
theorem dX6_weeksNow_16 : decode cX6_weeksNow 16 = .ok (.aload_n 0, 1) := by decide +kernel
theorem dX6_weeksNow_17 : decode cX6_weeksNow 17 = .ok (.getfield 16, 3) := by decide +kernel
theorem dX6_weeksNow_20 : decode cX6_weeksNow 20 = .ok (.iload 4, 2) := by decide +kernel
theorem dX6_weeksNow_22 : decode cX6_weeksNow 22 = .ok (.iaload, 1) := by decide +kernel
theorem dX6_weeksNow_23 : decode cX6_weeksNow 23 = .ok (.iastore, 1) := by decide +kernel
theorem dX6_weeksNow_24 : decode cX6_weeksNow 24 = .ok (.iinc 4 1, 3) := by decide +kernel
theorem dX6_weeksNow_27 : decode cX6_weeksNow 27 = .ok (.goto (-24), 3) := by decide +kernel
theorem dX6_weeksNow_30 : decode cX6_weeksNow 30 = .ok (.aload_n 0, 1) := by decide +kernel
theorem dX6_weeksNow_31 : decode cX6_weeksNow 31 = .ok (.iload_n 2, 1) := by decide +kernel
theorem dX6_weeksNow_32 : decode cX6_weeksNow 32 = .ok (.i2l, 1) := by decide +kernel
theorem dX6_weeksNow_33 : decode cX6_weeksNow 33 = .ok (.putfield 186, 3) := by decide +kernel
theorem dX6_weeksNow_36 : decode cX6_weeksNow 36 = .ok (.iconst 0, 1) := by decide +kernel
theorem dX6_weeksNow_37 : decode cX6_weeksNow 37 = .ok (.istore 4, 2) := by decide +kernel
theorem dX6_weeksNow_39 : decode cX6_weeksNow 39 = .ok (.iconst 0, 1) := by decide +kernel
theorem dX6_weeksNow_40 : decode cX6_weeksNow 40 = .ok (.istore 5, 2) := by decide +kernel
theorem dX6_weeksNow_42 : decode cX6_weeksNow 42 = .ok (.iconst 0, 1) := by decide +kernel
theorem dX6_weeksNow_43 : decode cX6_weeksNow 43 = .ok (.istore 6, 2) := by decide +kernel
theorem dX6_weeksNow_45 : decode cX6_weeksNow 45 = .ok (.iload 6, 2) := by decide +kernel
theorem dX6_weeksNow_47 : decode cX6_weeksNow 47 = .ok (.iload_n 1, 1) := by decide +kernel
theorem dX6_weeksNow_48 : decode cX6_weeksNow 48 = .ok (.if_icmp .ge 61, 3) := by decide +kernel
theorem dX6_weeksNow_51 : decode cX6_weeksNow 51 = .ok (.iconst 0, 1) := by decide +kernel
theorem dX6_weeksNow_52 : decode cX6_weeksNow 52 = .ok (.istore 7, 2) := by decide +kernel
theorem dX6_weeksNow_54 : decode cX6_weeksNow 54 = .ok (.iload 7, 2) := by decide +kernel
theorem dX6_weeksNow_56 : decode cX6_weeksNow 56 = .ok (.aload_n 0, 1) := by decide +kernel
theorem dX6_weeksNow_57 : decode cX6_weeksNow 57 = .ok (.getfield 97, 3) := by decide +kernel
theorem dX6_weeksNow_60 : decode cX6_weeksNow 60 = .ok (.if_icmp .ge 22, 3) := by decide +kernel
theorem dX6_weeksNow_63 : decode cX6_weeksNow 63 = .ok (.aload_n 0, 1) := by decide +kernel
theorem dX6_weeksNow_64 : decode cX6_weeksNow 64 = .ok (.getfield 16, 3) := by decide +kernel
theorem dX6_weeksNow_67 : decode cX6_weeksNow 67 = .ok (.iload 7, 2) := by decide +kernel
theorem dX6_weeksNow_69 : decode cX6_weeksNow 69 = .ok (.aload_n 0, 1) := by decide +kernel
theorem dX6_weeksNow_70 : decode cX6_weeksNow 70 = .ok (.bipush 10, 2) := by decide +kernel
theorem dX6_weeksNow_72 : decode cX6_weeksNow 72 = .ok (.invokevirtual 196, 3) := by decide +kernel
theorem dX6_weeksNow_75 : decode cX6_weeksNow 75 = .ok (.iastore, 1) := by decide +kernel
theorem dX6_weeksNow_76 : decode cX6_weeksNow 76 = .ok (.iinc 7 1, 3) := by decide +kernel
theorem dX6_weeksNow_79 : decode cX6_weeksNow 79 = .ok (.goto (-25), 3) := by decide +kernel
theorem dX6_weeksNow_82 : decode cX6_weeksNow 82 = .ok (.iload 4, 2) := by decide +kernel
theorem dX6_weeksNow_84 : decode cX6_weeksNow 84 = .ok (.aload_n 0, 1) := by decide +kernel
theorem dX6_weeksNow_85 : decode cX6_weeksNow 85 = .ok (.iconst 0, 1) := by decide +kernel
theorem dX6_weeksNow_86 : decode cX6_weeksNow 86 = .ok (.invokevirtual 164, 3) := by decide +kernel
theorem dX6_weeksNow_89 : decode cX6_weeksNow 89 = .ok (.iadd, 1) := by decide +kernel
theorem dX6_weeksNow_90 : decode cX6_weeksNow 90 = .ok (.istore 4, 2) := by decide +kernel
theorem dX6_weeksNow_92 : decode cX6_weeksNow 92 = .ok (.iload 5, 2) := by decide +kernel
theorem dX6_weeksNow_94 : decode cX6_weeksNow 94 = .ok (.aload_n 0, 1) := by decide +kernel
theorem dX6_weeksNow_95 : decode cX6_weeksNow 95 = .ok (.bipush 11, 2) := by decide +kernel
theorem dX6_weeksNow_97 : decode cX6_weeksNow 97 = .ok (.invokevirtual 112, 3) := by decide +kernel
theorem dX6_weeksNow_100 : decode cX6_weeksNow 100 = .ok (.iadd, 1) := by decide +kernel
theorem dX6_weeksNow_101 : decode cX6_weeksNow 101 = .ok (.istore 5, 2) := by decide +kernel
theorem dX6_weeksNow_103 : decode cX6_weeksNow 103 = .ok (.iinc 6 1, 3) := by decide +kernel
theorem dX6_weeksNow_106 : decode cX6_weeksNow 106 = .ok (.goto (-61), 3) := by decide +kernel
theorem dX6_weeksNow_109 : decode cX6_weeksNow 109 = .ok (.iconst 0, 1) := by decide +kernel
theorem dX6_weeksNow_110 : decode cX6_weeksNow 110 = .ok (.istore 6, 2) := by decide +kernel
theorem dX6_weeksNow_112 : decode cX6_weeksNow 112 = .ok (.iload 6, 2) := by decide +kernel
theorem dX6_weeksNow_114 : decode cX6_weeksNow 114 = .ok (.bipush 7, 2) := by decide +kernel
theorem dX6_weeksNow_116 : decode cX6_weeksNow 116 = .ok (.if_icmp .ge 23, 3) := by decide +kernel
theorem dX6_weeksNow_119 : decode cX6_weeksNow 119 = .ok (.aload_n 0, 1) := by decide +kernel
theorem dX6_weeksNow_120 : decode cX6_weeksNow 120 = .ok (.getfield 16, 3) := by decide +kernel
theorem dX6_weeksNow_123 : decode cX6_weeksNow 123 = .ok (.iload 6, 2) := by decide +kernel
theorem dX6_weeksNow_125 : decode cX6_weeksNow 125 = .ok (.aload_n 0, 1) := by decide +kernel
theorem dX6_weeksNow_126 : decode cX6_weeksNow 126 = .ok (.getfield 38, 3) := by decide +kernel
theorem dX6_weeksNow_129 : decode cX6_weeksNow 129 = .ok (.iload 6, 2) := by decide +kernel
theorem dX6_weeksNow_131 : decode cX6_weeksNow 131 = .ok (.iaload, 1) := by decide +kernel
theorem dX6_weeksNow_132 : decode cX6_weeksNow 132 = .ok (.iastore, 1) := by decide +kernel
theorem dX6_weeksNow_133 : decode cX6_weeksNow 133 = .ok (.iinc 6 1, 3) := by decide +kernel
theorem dX6_weeksNow_136 : decode cX6_weeksNow 136 = .ok (.goto (-24), 3) := by decide +kernel
theorem dX6_weeksNow_139 : decode cX6_weeksNow 139 = .ok (.iload_n 3, 1) := by decide +kernel
theorem dX6_weeksNow_140 : decode cX6_weeksNow 140 = .ok (.ifCond .ne 8, 3) := by decide +kernel
theorem dX6_weeksNow_143 : decode cX6_weeksNow 143 = .ok (.iload 4, 2) := by decide +kernel
theorem dX6_weeksNow_145 : decode cX6_weeksNow 145 = .ok (.goto 18, 3) := by decide +kernel
theorem dX6_weeksNow_148 : decode cX6_weeksNow 148 = .ok (.iload_n 3, 1) := by decide +kernel
theorem dX6_weeksNow_149 : decode cX6_weeksNow 149 = .ok (.iconst 1, 1) := by decide +kernel
theorem dX6_weeksNow_150 : decode cX6_weeksNow 150 = .ok (.if_icmp .ne 8, 3) := by decide +kernel
theorem dX6_weeksNow_153 : decode cX6_weeksNow 153 = .ok (.iload 5, 2) := by decide +kernel
theorem dX6_weeksNow_155 : decode cX6_weeksNow 155 = .ok (.goto 8, 3) := by decide +kernel
theorem dX6_weeksNow_158 : decode cX6_weeksNow 158 = .ok (.aload_n 0, 1) := by decide +kernel
theorem dX6_weeksNow_159 : decode cX6_weeksNow 159 = .ok (.getfield 186, 3) := by decide +kernel
theorem dX6_weeksNow_162 : decode cX6_weeksNow 162 = .ok (.l2i, 1) := by decide +kernel
theorem dX6_weeksNow_163 : decode cX6_weeksNow 163 = .ok (.ireturn, 1) := by decide +kernel
set_option maxRecDepth 20000 in
theorem ggX6_weeks_X6_within : GoodIn wsX6_weeks wsX6_within := goodIn_r _ [5] (by decide +kernel) (by decide +kernel)
set_option maxRecDepth 20000 in
theorem gX6_weeks_X6_within : GoodIn wsX6_weeks (va_wsS RX6 62 yX6_within wsX6_within) := goodIn_app (goodIn_of _ (by decide +kernel)) ggX6_weeks_X6_within
set_option maxRecDepth 20000 in
theorem ggX6_weeks_X6_weeksNow : GoodIn wsX6_weeks wsX6_weeksNow := goodIn_r _ [9, 10, 11, 12, 13, 14, 15, 16, 4, 17, 18, 19, 20, 21, 22, 23, 24, 25, 1, 26, 27, 28, 29, 30, 31, 32, 33, 34, 35, 36, 37, 38, 39, 40, 41, 42, 43, 44, 45, 46, 47, 48, 49, 50, 51, 52, 53, 54, 55, 56, 57, 58, 59, 60, 61, 62, 63, 64, 65, 66, 67, 68, 69, 70, 71, 72, 73, 74, 75, 76, 77, 78, 79, 80, 81, 82, 83, 84, 85, 86] (by decide +kernel) (by decide +kernel)
set_option maxRecDepth 20000 in
theorem gX6_weeks_X6_weeksNow : GoodIn wsX6_weeks (wsV RX6 199 RX6 yX6_weeksNow wsX6_weeksNow) := goodIn_app (goodIn_of _ (by decide +kernel)) ggX6_weeks_X6_weeksNow
theorem dX6_weeks_0 : decode cX6_weeks 0 = .ok (.iload_n 1, 1) := by decide +kernel
theorem dX6_weeks_1 : decode cX6_weeks 1 = .ok (.iconst 1, 1) := by decide +kernel
theorem dX6_weeks_2 : decode cX6_weeks 2 = .ok (.bipush 30, 2) := by decide +kernel
theorem dX6_weeks_4 : decode cX6_weeks 4 = .ok (.invokestatic 62, 3) := by decide +kernel
theorem dX6_weeks_7 : decode cX6_weeks 7 = .ok (.ifCond .eq 16, 3) := by decide +kernel
theorem dX6_weeks_10 : decode cX6_weeks 10 = .ok (.iload_n 2, 1) := by decide +kernel
theorem dX6_weeks_11 : decode cX6_weeks 11 = .ok (.ifCond .lt 12, 3) := by decide +kernel
theorem dX6_weeks_14 : decode cX6_weeks 14 = .ok (.iload_n 3, 1) := by decide +kernel
theorem dX6_weeks_15 : decode cX6_weeks 15 = .ok (.iconst 0, 1) := by decide +kernel
theorem dX6_weeks_16 : decode cX6_weeks 16 = .ok (.iconst 2, 1) := by decide +kernel
theorem dX6_weeks_17 : decode cX6_weeks 17 = .ok (.invokestatic 62, 3) := by decide +kernel
theorem dX6_weeks_20 : decode cX6_weeks 20 = .ok (.ifCond .ne 6, 3) := by decide +kernel
theorem dX6_weeks_23 : decode cX6_weeks 23 = .ok (.bipush (-102), 2) := by decide +kernel
theorem dX6_weeks_25 : decode cX6_weeks 25 = .ok (.ireturn, 1) := by decide +kernel
theorem dX6_weeks_26 : decode cX6_weeks 26 = .ok (.aload_n 0, 1) := by decide +kernel
theorem dX6_weeks_27 : decode cX6_weeks 27 = .ok (.getfield 94, 3) := by decide +kernel
theorem dX6_weeks_30 : decode cX6_weeks 30 = .ok (.ifCond .ne 8, 3) := by decide +kernel
theorem dX6_weeks_33 : decode cX6_weeks 33 = .ok (.bipush (-103), 2) := by decide +kernel
theorem dX6_weeks_35 : decode cX6_weeks 35 = .ok (.goto 10, 3) := by decide +kernel
theorem dX6_weeks_38 : decode cX6_weeks 38 = .ok (.aload_n 0, 1) := by decide +kernel
theorem dX6_weeks_39 : decode cX6_weeks 39 = .ok (.iload_n 1, 1) := by decide +kernel
theorem dX6_weeks_40 : decode cX6_weeks 40 = .ok (.iload_n 2, 1) := by decide +kernel
theorem dX6_weeks_41 : decode cX6_weeks 41 = .ok (.iload_n 3, 1) := by decide +kernel
theorem dX6_weeks_42 : decode cX6_weeks 42 = .ok (.invokevirtual 199, 3) := by decide +kernel
theorem dX6_weeks_45 : decode cX6_weeks 45 = .ok (.ireturn, 1) := by decide +kernel
theorem dX6_image_0 : decode cX6_image 0 = .ok (.aload_n 0, 1) := by decide +kernel
theorem dX6_image_1 : decode cX6_image 1 = .ok (.getfield 94, 3) := by decide +kernel
theorem dX6_image_4 : decode cX6_image 4 = .ok (.ifCond .ne 6, 3) := by decide +kernel
theorem dX6_image_7 : decode cX6_image 7 = .ok (.bipush (-103), 2) := by decide +kernel
theorem dX6_image_9 : decode cX6_image 9 = .ok (.ireturn, 1) := by decide +kernel
theorem dX6_image_10 : decode cX6_image 10 = .ok (.aload_n 0, 1) := by decide +kernel
theorem dX6_image_11 : decode cX6_image 11 = .ok (.iconst 1, 1) := by decide +kernel
theorem dX6_image_12 : decode cX6_image 12 = .ok (.putfield 202, 3) := by decide +kernel
theorem dX6_image_15 : decode cX6_image 15 = .ok (.aload_n 0, 1) := by decide +kernel
theorem dX6_image_16 : decode cX6_image 16 = .ok (.aload_n 0, 1) := by decide +kernel
theorem dX6_image_17 : decode cX6_image 17 = .ok (.getfield 100, 3) := by decide +kernel
theorem dX6_image_20 : decode cX6_image 20 = .ok (.putfield 205, 3) := by decide +kernel
theorem dX6_image_23 : decode cX6_image 23 = .ok (.aload_n 0, 1) := by decide +kernel
theorem dX6_image_24 : decode cX6_image 24 = .ok (.aload_n 0, 1) := by decide +kernel
theorem dX6_image_25 : decode cX6_image 25 = .ok (.getfield 97, 3) := by decide +kernel
theorem dX6_image_28 : decode cX6_image 28 = .ok (.putfield 208, 3) := by decide +kernel
theorem dX6_image_31 : decode cX6_image 31 = .ok (.aload_n 0, 1) := by decide +kernel
theorem dX6_image_32 : decode cX6_image 32 = .ok (.aload_n 0, 1) := by decide +kernel
theorem dX6_image_33 : decode cX6_image 33 = .ok (.getfield 103, 3) := by decide +kernel
theorem dX6_image_36 : decode cX6_image 36 = .ok (.putfield 211, 3) := by decide +kernel
theorem dX6_image_39 : decode cX6_image 39 = .ok (.aload_n 0, 1) := by decide +kernel
theorem dX6_image_40 : decode cX6_image 40 = .ok (.aload_n 0, 1) := by decide +kernel
theorem dX6_image_41 : decode cX6_image 41 = .ok (.getfield 106, 3) := by decide +kernel
theorem dX6_image_44 : decode cX6_image 44 = .ok (.putfield 214, 3) := by decide +kernel
theorem dX6_image_47 : decode cX6_image 47 = .ok (.iconst 0, 1) := by decide +kernel
theorem dX6_image_48 : decode cX6_image 48 = .ok (.istore_n 1, 1) := by decide +kernel
theorem dX6_image_49 : decode cX6_image 49 = .ok (.iload_n 1, 1) := by decide +kernel
theorem dX6_image_50 : decode cX6_image 50 = .ok (.iconst 5, 1) := by decide +kernel
theorem dX6_image_51 : decode cX6_image 51 = .ok (.if_icmp .ge 21, 3) := by decide +kernel
theorem dX6_image_54 : decode cX6_image 54 = .ok (.aload_n 0, 1) := by decide +kernel
theorem dX6_image_55 : decode cX6_image 55 = .ok (.getfield 41, 3) := by decide +kernel
theorem dX6_image_58 : decode cX6_image 58 = .ok (.iload_n 1, 1) := by decide +kernel
theorem dX6_image_59 : decode cX6_image 59 = .ok (.aload_n 0, 1) := by decide +kernel
theorem dX6_image_60 : decode cX6_image 60 = .ok (.getfield 13, 3) := by decide +kernel
theorem dX6_image_63 : decode cX6_image 63 = .ok (.iload_n 1, 1) := by decide +kernel
theorem dX6_image_64 : decode cX6_image 64 = .ok (.iaload, 1) := by decide +kernel
theorem dX6_image_65 : decode cX6_image 65 = .ok (.iastore, 1) := by decide +kernel
theorem dX6_image_66 : decode cX6_image 66 = .ok (.iinc 1 1, 3) := by decide +kernel
theorem dX6_image_69 : decode cX6_image 69 = .ok (.goto (-20), 3) := by decide +kernel
theorem dX6_image_72 : decode cX6_image 72 = .ok (.iconst 0, 1) := by decide +kernel
theorem dX6_image_73 : decode cX6_image 73 = .ok (.istore_n 1, 1) := by decide +kernel
theorem dX6_image_74 : decode cX6_image 74 = .ok (.iload_n 1, 1) := by decide +kernel
theorem dX6_image_75 : decode cX6_image 75 = .ok (.bipush 6, 2) := by decide +kernel
theorem dX6_image_77 : decode cX6_image 77 = .ok (.if_icmp .ge 81, 3) := by decide +kernel
theorem dX6_image_80 : decode cX6_image 80 = .ok (.aload_n 0, 1) := by decide +kernel
theorem dX6_image_81 : decode cX6_image 81 = .ok (.getfield 44, 3) := by decide +kernel
theorem dX6_image_84 : decode cX6_image 84 = .ok (.iload_n 1, 1) := by decide +kernel
theorem dX6_image_85 : decode cX6_image 85 = .ok (.aload_n 0, 1) := by decide +kernel
theorem dX6_image_86 : decode cX6_image 86 = .ok (.getfield 16, 3) := by decide +kernel
theorem dX6_image_89 : decode cX6_image 89 = .ok (.iload_n 1, 1) := by decide +kernel
theorem dX6_image_90 : decode cX6_image 90 = .ok (.iaload, 1) := by decide +kernel
theorem dX6_image_91 : decode cX6_image 91 = .ok (.iastore, 1) := by decide +kernel
theorem dX6_image_92 : decode cX6_image 92 = .ok (.aload_n 0, 1) := by decide +kernel
theorem dX6_image_93 : decode cX6_image 93 = .ok (.getfield 47, 3) := by decide +kernel
theorem dX6_image_96 : decode cX6_image 96 = .ok (.iload_n 1, 1) := by decide +kernel
theorem dX6_image_97 : decode cX6_image 97 = .ok (.aload_n 0, 1) := by decide +kernel
theorem dX6_image_98 : decode cX6_image 98 = .ok (.getfield 19, 3) := by decide +kernel
theorem dX6_image_101 : decode cX6_image 101 = .ok (.iload_n 1, 1) := by decide +kernel
theorem dX6_image_102 : decode cX6_image 102 = .ok (.iaload, 1) := by decide +kernel
theorem dX6_image_103 : decode cX6_image 103 = .ok (.iastore, 1) := by decide +kernel
theorem dX6_image_104 : decode cX6_image 104 = .ok (.aload_n 0, 1) := by decide +kernel
theorem dX6_image_105 : decode cX6_image 105 = .ok (.getfield 50, 3) := by decide +kernel
theorem dX6_image_108 : decode cX6_image 108 = .ok (.iload_n 1, 1) := by decide +kernel
theorem dX6_image_109 : decode cX6_image 109 = .ok (.aload_n 0, 1) := by decide +kernel
theorem dX6_image_110 : decode cX6_image 110 = .ok (.getfield 22, 3) := by decide +kernel
theorem dX6_image_113 : decode cX6_image 113 = .ok (.iload_n 1, 1) := by decide +kernel
theorem dX6_image_114 : decode cX6_image 114 = .ok (.iaload, 1) := by decide +kernel
theorem dX6_image_115 : decode cX6_image 115 = .ok (.iastore, 1) := by decide +kernel
theorem dX6_image_116 : decode cX6_image 116 = .ok (.aload_n 0, 1) := by decide +kernel
theorem dX6_image_117 : decode cX6_image 117 = .ok (.getfield 53, 3) := by decide +kernel
theorem dX6_image_120 : decode cX6_image 120 = .ok (.iload_n 1, 1) := by decide +kernel
theorem dX6_image_121 : decode cX6_image 121 = .ok (.aload_n 0, 1) := by decide +kernel
theorem dX6_image_122 : decode cX6_image 122 = .ok (.getfield 25, 3) := by decide +kernel
theorem dX6_image_125 : decode cX6_image 125 = .ok (.iload_n 1, 1) := by decide +kernel
theorem dX6_image_126 : decode cX6_image 126 = .ok (.iaload, 1) := by decide +kernel
theorem dX6_image_127 : decode cX6_image 127 = .ok (.iastore, 1) := by decide +kernel
theorem dX6_image_128 : decode cX6_image 128 = .ok (.aload_n 0, 1) := by decide +kernel
theorem dX6_image_129 : decode cX6_image 129 = .ok (.getfield 56, 3) := by decide +kernel
theorem dX6_image_132 : decode cX6_image 132 = .ok (.iload_n 1, 1) := by decide +kernel
theorem dX6_image_133 : decode cX6_image 133 = .ok (.aload_n 0, 1) := by decide +kernel
theorem dX6_image_134 : decode cX6_image 134 = .ok (.getfield 28, 3) := by decide +kernel
theorem dX6_image_137 : decode cX6_image 137 = .ok (.iload_n 1, 1) := by decide +kernel
theorem dX6_image_138 : decode cX6_image 138 = .ok (.iaload, 1) := by decide +kernel
theorem dX6_image_139 : decode cX6_image 139 = .ok (.iastore, 1) := by decide +kernel
theorem dX6_image_140 : decode cX6_image 140 = .ok (.aload_n 0, 1) := by decide +kernel
theorem dX6_image_141 : decode cX6_image 141 = .ok (.getfield 59, 3) := by decide +kernel
theorem dX6_image_144 : decode cX6_image 144 = .ok (.iload_n 1, 1) := by decide +kernel
theorem dX6_image_145 : decode cX6_image 145 = .ok (.aload_n 0, 1) := by decide +kernel
theorem dX6_image_146 : decode cX6_image 146 = .ok (.getfield 31, 3) := by decide +kernel
theorem dX6_image_149 : decode cX6_image 149 = .ok (.iload_n 1, 1) := by decide +kernel
theorem dX6_image_150 : decode cX6_image 150 = .ok (.iaload, 1) := by decide +kernel
theorem dX6_image_151 : decode cX6_image 151 = .ok (.iastore, 1) := by decide +kernel
theorem dX6_image_152 : decode cX6_image 152 = .ok (.iinc 1 1, 3) := by decide +kernel
theorem dX6_image_155 : decode cX6_image 155 = .ok (.goto (-81), 3) := by decide +kernel
theorem dX6_image_158 : decode cX6_image 158 = .ok (.aload_n 0, 1) := by decide +kernel
theorem dX6_image_159 : decode cX6_image 159 = .ok (.getfield 103, 3) := by decide +kernel
theorem dX6_image_162 : decode cX6_image 162 = .ok (.ireturn, 1) := by decide +kernel
theorem dX6_restore_0 : decode cX6_restore 0 = .ok (.aload_n 0, 1) := by decide +kernel
theorem dX6_restore_1 : decode cX6_restore 1 = .ok (.getfield 202, 3) := by decide +kernel
theorem dX6_restore_4 : decode cX6_restore 4 = .ok (.ifCond .eq 14, 3) := by decide +kernel
theorem dX6_restore_7 : decode cX6_restore 7 = .ok (.aload_n 0, 1) := by decide +kernel
theorem dX6_restore_8 : decode cX6_restore 8 = .ok (.getfield 205, 3) := by decide +kernel
theorem dX6_restore_11 : decode cX6_restore 11 = .ok (.aload_n 0, 1) := by decide +kernel
theorem dX6_restore_12 : decode cX6_restore 12 = .ok (.getfield 100, 3) := by decide +kernel
theorem dX6_restore_15 : decode cX6_restore 15 = .ok (.if_icmp .eq 6, 3) := by decide +kernel
theorem dX6_restore_18 : decode cX6_restore 18 = .ok (.bipush (-103), 2) := by decide +kernel
theorem dX6_restore_20 : decode cX6_restore 20 = .ok (.ireturn, 1) := by decide +kernel
theorem dX6_restore_21 : decode cX6_restore 21 = .ok (.aload_n 0, 1) := by decide +kernel
theorem dX6_restore_22 : decode cX6_restore 22 = .ok (.aload_n 0, 1) := by decide +kernel
theorem dX6_restore_23 : decode cX6_restore 23 = .ok (.getfield 208, 3) := by decide +kernel
theorem dX6_restore_26 : decode cX6_restore 26 = .ok (.putfield 97, 3) := by decide +kernel
theorem dX6_restore_29 : decode cX6_restore 29 = .ok (.aload_n 0, 1) := by decide +kernel
theorem dX6_restore_30 : decode cX6_restore 30 = .ok (.aload_n 0, 1) := by decide +kernel
theorem dX6_restore_31 : decode cX6_restore 31 = .ok (.getfield 211, 3) := by decide +kernel
theorem dX6_restore_34 : decode cX6_restore 34 = .ok (.putfield 103, 3) := by decide +kernel
theorem dX6_restore_37 : decode cX6_restore 37 = .ok (.aload_n 0, 1) := by decide +kernel
theorem dX6_restore_38 : decode cX6_restore 38 = .ok (.aload_n 0, 1) := by decide +kernel
theorem dX6_restore_39 : decode cX6_restore 39 = .ok (.getfield 214, 3) := by decide +kernel
theorem dX6_restore_42 : decode cX6_restore 42 = .ok (.putfield 106, 3) := by decide +kernel
theorem dX6_restore_45 : decode cX6_restore 45 = .ok (.iconst 0, 1) := by decide +kernel
theorem dX6_restore_46 : decode cX6_restore 46 = .ok (.istore_n 1, 1) := by decide +kernel
theorem dX6_restore_47 : decode cX6_restore 47 = .ok (.iload_n 1, 1) := by decide +kernel
theorem dX6_restore_48 : decode cX6_restore 48 = .ok (.iconst 5, 1) := by decide +kernel
theorem dX6_restore_49 : decode cX6_restore 49 = .ok (.if_icmp .ge 21, 3) := by decide +kernel
theorem dX6_restore_52 : decode cX6_restore 52 = .ok (.aload_n 0, 1) := by decide +kernel
theorem dX6_restore_53 : decode cX6_restore 53 = .ok (.getfield 13, 3) := by decide +kernel
theorem dX6_restore_56 : decode cX6_restore 56 = .ok (.iload_n 1, 1) := by decide +kernel
theorem dX6_restore_57 : decode cX6_restore 57 = .ok (.aload_n 0, 1) := by decide +kernel
theorem dX6_restore_58 : decode cX6_restore 58 = .ok (.getfield 41, 3) := by decide +kernel
theorem dX6_restore_61 : decode cX6_restore 61 = .ok (.iload_n 1, 1) := by decide +kernel
theorem dX6_restore_62 : decode cX6_restore 62 = .ok (.iaload, 1) := by decide +kernel
theorem dX6_restore_63 : decode cX6_restore 63 = .ok (.iastore, 1) := by decide +kernel
theorem dX6_restore_64 : decode cX6_restore 64 = .ok (.iinc 1 1, 3) := by decide +kernel
theorem dX6_restore_67 : decode cX6_restore 67 = .ok (.goto (-20), 3) := by decide +kernel
theorem dX6_restore_70 : decode cX6_restore 70 = .ok (.iconst 0, 1) := by decide +kernel
theorem dX6_restore_71 : decode cX6_restore 71 = .ok (.istore_n 1, 1) := by decide +kernel
theorem dX6_restore_72 : decode cX6_restore 72 = .ok (.iload_n 1, 1) := by decide +kernel
theorem dX6_restore_73 : decode cX6_restore 73 = .ok (.bipush 6, 2) := by decide +kernel
theorem dX6_restore_75 : decode cX6_restore 75 = .ok (.if_icmp .ge 81, 3) := by decide +kernel
theorem dX6_restore_78 : decode cX6_restore 78 = .ok (.aload_n 0, 1) := by decide +kernel
theorem dX6_restore_79 : decode cX6_restore 79 = .ok (.getfield 16, 3) := by decide +kernel
theorem dX6_restore_82 : decode cX6_restore 82 = .ok (.iload_n 1, 1) := by decide +kernel
theorem dX6_restore_83 : decode cX6_restore 83 = .ok (.aload_n 0, 1) := by decide +kernel
theorem dX6_restore_84 : decode cX6_restore 84 = .ok (.getfield 44, 3) := by decide +kernel
theorem dX6_restore_87 : decode cX6_restore 87 = .ok (.iload_n 1, 1) := by decide +kernel
theorem dX6_restore_88 : decode cX6_restore 88 = .ok (.iaload, 1) := by decide +kernel
theorem dX6_restore_89 : decode cX6_restore 89 = .ok (.iastore, 1) := by decide +kernel
theorem dX6_restore_90 : decode cX6_restore 90 = .ok (.aload_n 0, 1) := by decide +kernel
theorem dX6_restore_91 : decode cX6_restore 91 = .ok (.getfield 19, 3) := by decide +kernel
theorem dX6_restore_94 : decode cX6_restore 94 = .ok (.iload_n 1, 1) := by decide +kernel
theorem dX6_restore_95 : decode cX6_restore 95 = .ok (.aload_n 0, 1) := by decide +kernel
theorem dX6_restore_96 : decode cX6_restore 96 = .ok (.getfield 47, 3) := by decide +kernel
theorem dX6_restore_99 : decode cX6_restore 99 = .ok (.iload_n 1, 1) := by decide +kernel
theorem dX6_restore_100 : decode cX6_restore 100 = .ok (.iaload, 1) := by decide +kernel
theorem dX6_restore_101 : decode cX6_restore 101 = .ok (.iastore, 1) := by decide +kernel
theorem dX6_restore_102 : decode cX6_restore 102 = .ok (.aload_n 0, 1) := by decide +kernel
theorem dX6_restore_103 : decode cX6_restore 103 = .ok (.getfield 22, 3) := by decide +kernel
theorem dX6_restore_106 : decode cX6_restore 106 = .ok (.iload_n 1, 1) := by decide +kernel
theorem dX6_restore_107 : decode cX6_restore 107 = .ok (.aload_n 0, 1) := by decide +kernel
theorem dX6_restore_108 : decode cX6_restore 108 = .ok (.getfield 50, 3) := by decide +kernel
theorem dX6_restore_111 : decode cX6_restore 111 = .ok (.iload_n 1, 1) := by decide +kernel
theorem dX6_restore_112 : decode cX6_restore 112 = .ok (.iaload, 1) := by decide +kernel
theorem dX6_restore_113 : decode cX6_restore 113 = .ok (.iastore, 1) := by decide +kernel
theorem dX6_restore_114 : decode cX6_restore 114 = .ok (.aload_n 0, 1) := by decide +kernel
theorem dX6_restore_115 : decode cX6_restore 115 = .ok (.getfield 25, 3) := by decide +kernel
theorem dX6_restore_118 : decode cX6_restore 118 = .ok (.iload_n 1, 1) := by decide +kernel
theorem dX6_restore_119 : decode cX6_restore 119 = .ok (.aload_n 0, 1) := by decide +kernel
theorem dX6_restore_120 : decode cX6_restore 120 = .ok (.getfield 53, 3) := by decide +kernel
theorem dX6_restore_123 : decode cX6_restore 123 = .ok (.iload_n 1, 1) := by decide +kernel
theorem dX6_restore_124 : decode cX6_restore 124 = .ok (.iaload, 1) := by decide +kernel
theorem dX6_restore_125 : decode cX6_restore 125 = .ok (.iastore, 1) := by decide +kernel
theorem dX6_restore_126 : decode cX6_restore 126 = .ok (.aload_n 0, 1) := by decide +kernel
theorem dX6_restore_127 : decode cX6_restore 127 = .ok (.getfield 28, 3) := by decide +kernel
theorem dX6_restore_130 : decode cX6_restore 130 = .ok (.iload_n 1, 1) := by decide +kernel
theorem dX6_restore_131 : decode cX6_restore 131 = .ok (.aload_n 0, 1) := by decide +kernel
theorem dX6_restore_132 : decode cX6_restore 132 = .ok (.getfield 56, 3) := by decide +kernel
theorem dX6_restore_135 : decode cX6_restore 135 = .ok (.iload_n 1, 1) := by decide +kernel
theorem dX6_restore_136 : decode cX6_restore 136 = .ok (.iaload, 1) := by decide +kernel
theorem dX6_restore_137 : decode cX6_restore 137 = .ok (.iastore, 1) := by decide +kernel
theorem dX6_restore_138 : decode cX6_restore 138 = .ok (.aload_n 0, 1) := by decide +kernel
theorem dX6_restore_139 : decode cX6_restore 139 = .ok (.getfield 31, 3) := by decide +kernel
theorem dX6_restore_142 : decode cX6_restore 142 = .ok (.iload_n 1, 1) := by decide +kernel
theorem dX6_restore_143 : decode cX6_restore 143 = .ok (.aload_n 0, 1) := by decide +kernel
theorem dX6_restore_144 : decode cX6_restore 144 = .ok (.getfield 59, 3) := by decide +kernel
theorem dX6_restore_147 : decode cX6_restore 147 = .ok (.iload_n 1, 1) := by decide +kernel
theorem dX6_restore_148 : decode cX6_restore 148 = .ok (.iaload, 1) := by decide +kernel
theorem dX6_restore_149 : decode cX6_restore 149 = .ok (.iastore, 1) := by decide +kernel
theorem dX6_restore_150 : decode cX6_restore 150 = .ok (.iinc 1 1, 3) := by decide +kernel
theorem dX6_restore_153 : decode cX6_restore 153 = .ok (.goto (-81), 3) := by decide +kernel
theorem dX6_restore_156 : decode cX6_restore 156 = .ok (.aload_n 0, 1) := by decide +kernel
theorem dX6_restore_157 : decode cX6_restore 157 = .ok (.getfield 103, 3) := by decide +kernel
theorem dX6_restore_160 : decode cX6_restore 160 = .ok (.ireturn, 1) := by decide +kernel
set_option maxRecDepth 20000 in
theorem ggX6_highest_X6_tideAt : GoodIn wsX6_highest wsX6_tideAt := goodIn_r _ [6, 7, 8, 9, 10, 11, 12, 13, 14, 15, 16, 17, 18, 19, 20, 21, 22, 23, 24, 25, 26, 27, 28, 29, 30, 31, 32, 33, 34, 35, 36, 37, 38, 39, 40, 41, 42, 43, 44] (by decide +kernel) (by decide +kernel)
set_option maxRecDepth 20000 in
theorem gX6_highest_X6_tideAt : GoodIn wsX6_highest (wsV RX6 112 RX6 yX6_tideAt wsX6_tideAt) := goodIn_app (goodIn_of _ (by decide +kernel)) ggX6_highest_X6_tideAt
theorem dX6_highest_0 : decode cX6_highest 0 = .ok (.iconst 0, 1) := by decide +kernel
theorem dX6_highest_1 : decode cX6_highest 1 = .ok (.istore_n 1, 1) := by decide +kernel
theorem dX6_highest_2 : decode cX6_highest 2 = .ok (.iconst 0, 1) := by decide +kernel
theorem dX6_highest_3 : decode cX6_highest 3 = .ok (.istore_n 2, 1) := by decide +kernel
theorem dX6_highest_4 : decode cX6_highest 4 = .ok (.iload_n 2, 1) := by decide +kernel
theorem dX6_highest_5 : decode cX6_highest 5 = .ok (.bipush 12, 2) := by decide +kernel
theorem dX6_highest_7 : decode cX6_highest 7 = .ok (.if_icmp .ge 35, 3) := by decide +kernel
theorem dX6_highest_10 : decode cX6_highest 10 = .ok (.aload_n 0, 1) := by decide +kernel
theorem dX6_highest_11 : decode cX6_highest 11 = .ok (.getfield 94, 3) := by decide +kernel
theorem dX6_highest_14 : decode cX6_highest 14 = .ok (.ifCond .le 28, 3) := by decide +kernel
theorem dX6_highest_17 : decode cX6_highest 17 = .ok (.aload_n 0, 1) := by decide +kernel
theorem dX6_highest_18 : decode cX6_highest 18 = .ok (.iload_n 2, 1) := by decide +kernel
theorem dX6_highest_19 : decode cX6_highest 19 = .ok (.invokevirtual 112, 3) := by decide +kernel
theorem dX6_highest_22 : decode cX6_highest 22 = .ok (.iload_n 1, 1) := by decide +kernel
theorem dX6_highest_23 : decode cX6_highest 23 = .ok (.if_icmp .le 11, 3) := by decide +kernel
theorem dX6_highest_26 : decode cX6_highest 26 = .ok (.aload_n 0, 1) := by decide +kernel
theorem dX6_highest_27 : decode cX6_highest 27 = .ok (.iload_n 2, 1) := by decide +kernel
theorem dX6_highest_28 : decode cX6_highest 28 = .ok (.invokevirtual 112, 3) := by decide +kernel
theorem dX6_highest_31 : decode cX6_highest 31 = .ok (.goto 4, 3) := by decide +kernel
theorem dX6_highest_34 : decode cX6_highest 34 = .ok (.iload_n 1, 1) := by decide +kernel
theorem dX6_highest_35 : decode cX6_highest 35 = .ok (.istore_n 1, 1) := by decide +kernel
theorem dX6_highest_36 : decode cX6_highest 36 = .ok (.iinc 2 1, 3) := by decide +kernel
theorem dX6_highest_39 : decode cX6_highest 39 = .ok (.goto (-35), 3) := by decide +kernel
theorem dX6_highest_42 : decode cX6_highest 42 = .ok (.iload_n 1, 1) := by decide +kernel
theorem dX6_highest_43 : decode cX6_highest 43 = .ok (.ireturn, 1) := by decide +kernel
set_option maxRecDepth 20000 in
theorem ggX6_howMany_X6_highest : GoodIn wsX6_howMany wsX6_highest := goodIn_r _ [11, 1, 12, 13, 14, 10, 15, 2, 16, 17, 18, 44, 45, 46, 47, 48, 49, 50, 51, 52, 53, 54, 55, 56, 57, 58, 59, 60, 61, 62, 63, 64, 65, 66, 67, 68, 69, 70, 71, 72, 73, 74, 75, 76, 77] (by decide +kernel) (by decide +kernel)
set_option maxRecDepth 20000 in
theorem gX6_howMany_X6_highest : GoodIn wsX6_howMany (wsV RX6 217 RX6 yX6_highest wsX6_highest) := goodIn_app (goodIn_of _ (by decide +kernel)) ggX6_howMany_X6_highest
set_option maxRecDepth 20000 in
theorem ggX6_howMany_X6_hoursAll : GoodIn wsX6_howMany wsX6_hoursAll := goodIn_r _ [22, 1, 23, 24, 25, 10, 26, 27, 28, 29, 30, 31, 32, 33, 34, 35, 36, 12, 13, 14, 15, 2, 16, 17, 18, 37, 38, 39, 40, 41, 42, 43, 44, 45, 46, 47, 48, 49, 50, 51, 52, 53, 54, 55, 56, 57, 58, 59, 60, 61, 62, 63, 64, 65, 66, 67, 68, 69, 70, 71, 72, 73, 74, 75, 76, 77] (by decide +kernel) (by decide +kernel)
set_option maxRecDepth 20000 in
theorem gX6_howMany_X6_hoursAll : GoodIn wsX6_howMany (wsV RX6 164 RX6 yX6_hoursAll wsX6_hoursAll) := goodIn_app (goodIn_of _ (by decide +kernel)) ggX6_howMany_X6_hoursAll
theorem dX6_howMany_0 : decode cX6_howMany 0 = .ok (.iload_n 1, 1) := by decide +kernel
theorem dX6_howMany_1 : decode cX6_howMany 1 = .ok (.tableswitch 98 0 8 #[51, 56, 61, 66, 72, 78, 83, 88, 93], 51) := by decide +kernel
theorem dX6_howMany_52 : decode cX6_howMany 52 = .ok (.aload_n 0, 1) := by decide +kernel
theorem dX6_howMany_53 : decode cX6_howMany 53 = .ok (.getfield 94, 3) := by decide +kernel
theorem dX6_howMany_56 : decode cX6_howMany 56 = .ok (.ireturn, 1) := by decide +kernel
theorem dX6_howMany_57 : decode cX6_howMany 57 = .ok (.aload_n 0, 1) := by decide +kernel
theorem dX6_howMany_58 : decode cX6_howMany 58 = .ok (.getfield 97, 3) := by decide +kernel
theorem dX6_howMany_61 : decode cX6_howMany 61 = .ok (.ireturn, 1) := by decide +kernel
theorem dX6_howMany_62 : decode cX6_howMany 62 = .ok (.aload_n 0, 1) := by decide +kernel
theorem dX6_howMany_63 : decode cX6_howMany 63 = .ok (.invokevirtual 217, 3) := by decide +kernel
theorem dX6_howMany_66 : decode cX6_howMany 66 = .ok (.ireturn, 1) := by decide +kernel
theorem dX6_howMany_67 : decode cX6_howMany 67 = .ok (.aload_n 0, 1) := by decide +kernel
theorem dX6_howMany_68 : decode cX6_howMany 68 = .ok (.iconst 0, 1) := by decide +kernel
theorem dX6_howMany_69 : decode cX6_howMany 69 = .ok (.invokevirtual 164, 3) := by decide +kernel
theorem dX6_howMany_72 : decode cX6_howMany 72 = .ok (.ireturn, 1) := by decide +kernel
theorem dX6_howMany_73 : decode cX6_howMany 73 = .ok (.aload_n 0, 1) := by decide +kernel
theorem dX6_howMany_74 : decode cX6_howMany 74 = .ok (.iconst 2, 1) := by decide +kernel
theorem dX6_howMany_75 : decode cX6_howMany 75 = .ok (.invokevirtual 164, 3) := by decide +kernel
theorem dX6_howMany_78 : decode cX6_howMany 78 = .ok (.ireturn, 1) := by decide +kernel
theorem dX6_howMany_79 : decode cX6_howMany 79 = .ok (.aload_n 0, 1) := by decide +kernel
theorem dX6_howMany_80 : decode cX6_howMany 80 = .ok (.getfield 103, 3) := by decide +kernel
theorem dX6_howMany_83 : decode cX6_howMany 83 = .ok (.ireturn, 1) := by decide +kernel
theorem dX6_howMany_84 : decode cX6_howMany 84 = .ok (.aload_n 0, 1) := by decide +kernel
theorem dX6_howMany_85 : decode cX6_howMany 85 = .ok (.getfield 106, 3) := by decide +kernel
theorem dX6_howMany_88 : decode cX6_howMany 88 = .ok (.ireturn, 1) := by decide +kernel
theorem dX6_howMany_89 : decode cX6_howMany 89 = .ok (.aload_n 0, 1) := by decide +kernel
theorem dX6_howMany_90 : decode cX6_howMany 90 = .ok (.getfield 66, 3) := by decide +kernel
theorem dX6_howMany_93 : decode cX6_howMany 93 = .ok (.ireturn, 1) := by decide +kernel
theorem dX6_howMany_94 : decode cX6_howMany 94 = .ok (.aload_n 0, 1) := by decide +kernel
theorem dX6_howMany_95 : decode cX6_howMany 95 = .ok (.getfield 100, 3) := by decide +kernel
theorem dX6_howMany_98 : decode cX6_howMany 98 = .ok (.ireturn, 1) := by decide +kernel
theorem dX6_howMany_99 : decode cX6_howMany 99 = .ok (.bipush (-102), 2) := by decide +kernel
theorem dX6_howMany_101 : decode cX6_howMany 101 = .ok (.ireturn, 1) := by decide +kernel
set_option maxRecDepth 20000 in
theorem ggX6_count_X6_howMany : GoodIn wsX6_count wsX6_howMany := goodIn_r _ [5, 6, 7, 8, 9, 10, 11, 12, 13, 14, 4, 15, 16, 17, 18, 19, 20, 21, 22, 23, 24, 25, 26, 27, 28, 29, 30, 31, 32, 33, 34, 35, 36, 37, 38, 39, 40, 41, 42, 43, 44, 45, 46, 47, 48, 49, 50, 51, 52, 53, 54, 55, 56, 57, 58, 59, 60, 61, 62, 63, 64, 65, 66, 67, 68, 69, 70, 71, 72, 73, 74, 75, 76, 77, 78, 79, 80, 81] (by decide +kernel) (by decide +kernel)
set_option maxRecDepth 20000 in
theorem gX6_count_X6_howMany : GoodIn wsX6_count (wsV RX6 220 RX6 yX6_howMany wsX6_howMany) := goodIn_app (goodIn_of _ (by decide +kernel)) ggX6_count_X6_howMany
theorem dX6_count_0 : decode cX6_count 0 = .ok (.aload_n 0, 1) := by decide +kernel
theorem dX6_count_1 : decode cX6_count 1 = .ok (.iload_n 1, 1) := by decide +kernel
theorem dX6_count_2 : decode cX6_count 2 = .ok (.invokevirtual 220, 3) := by decide +kernel
theorem dX6_count_5 : decode cX6_count 5 = .ok (.ireturn, 1) := by decide +kernel
theorem dX6_mix_0 : decode cX6_mix 0 = .ok (.aload_n 0, 1) := by decide +kernel
theorem dX6_mix_1 : decode cX6_mix 1 = .ok (.ldc2_w 223, 3) := by decide +kernel
theorem dX6_mix_4 : decode cX6_mix 4 = .ok (.aload_n 0, 1) := by decide +kernel
theorem dX6_mix_5 : decode cX6_mix 5 = .ok (.getfield 225, 3) := by decide +kernel
theorem dX6_mix_8 : decode cX6_mix 8 = .ok (.lmul, 1) := by decide +kernel
theorem dX6_mix_9 : decode cX6_mix 9 = .ok (.lload_n 1, 1) := by decide +kernel
theorem dX6_mix_10 : decode cX6_mix 10 = .ok (.ladd, 1) := by decide +kernel
theorem dX6_mix_11 : decode cX6_mix 11 = .ok (.putfield 225, 3) := by decide +kernel
theorem dX6_mix_14 : decode cX6_mix 14 = .ok (.return_, 1) := by decide +kernel
set_option maxRecDepth 20000 in
theorem ggX6_digest_X6_houseNow : GoodIn wsX6_digest wsX6_houseNow := goodIn_r _ [11, 12, 13, 14, 15, 16, 10, 17, 18, 19, 20, 21, 22, 23, 24, 25, 26, 27, 28, 29, 4, 30, 31, 32, 33, 34, 35, 36, 37, 38, 39, 40, 41, 42, 43, 114, 115, 116, 117, 118, 119, 120, 121, 122, 123, 124, 125, 126, 127, 128, 129, 130, 131, 132, 133, 134, 135, 136, 137, 138, 139, 140, 141, 142, 143, 144, 145, 146, 147] (by decide +kernel) (by decide +kernel)
set_option maxRecDepth 20000 in
theorem gX6_digest_X6_houseNow : GoodIn wsX6_digest (wsV RX6 138 RX6 yX6_houseNow wsX6_houseNow) := goodIn_app (goodIn_of _ (by decide +kernel)) ggX6_digest_X6_houseNow
set_option maxRecDepth 20000 in
theorem ggX6_digest_X6_mix : GoodIn wsX6_digest wsX6_mix := goodIn_r _ [47, 48, 2, 114, 115, 116, 117, 118, 119, 120, 121, 122, 123, 124, 125, 126, 127, 128, 129, 130, 131, 132, 133, 134, 135, 136, 137, 138, 139, 140, 141, 142, 143, 144, 145, 146, 147] (by decide +kernel) (by decide +kernel)
set_option maxRecDepth 20000 in
theorem gX6_digest_X6_mix : GoodIn wsX6_digest (wsV RX6 230 RX6 yX6_mix wsX6_mix) := goodIn_app (goodIn_of _ (by decide +kernel)) ggX6_digest_X6_mix
set_option maxRecDepth 20000 in
theorem ggX6_digest_X6_strokeNow : GoodIn wsX6_digest wsX6_strokeNow := goodIn_r _ [52, 31, 32, 53, 54, 10, 55, 56, 57, 58, 114, 115, 116, 117, 118, 119, 120, 121, 122, 123, 124, 125, 126, 127, 128, 129, 130, 131, 132, 133, 134, 135, 136, 137, 138, 139, 140, 141, 142, 143, 144, 145, 146, 147] (by decide +kernel) (by decide +kernel)
set_option maxRecDepth 20000 in
theorem gX6_digest_X6_strokeNow : GoodIn wsX6_digest (wsV RX6 147 RX6 yX6_strokeNow wsX6_strokeNow) := goodIn_app (goodIn_of _ (by decide +kernel)) ggX6_digest_X6_strokeNow
set_option maxRecDepth 20000 in
theorem ggX6_digest_X6_tideAt : GoodIn wsX6_digest wsX6_tideAt := goodIn_r _ [29, 4, 30, 31, 32, 114, 115, 116, 117, 118, 119, 120, 121, 122, 123, 124, 125, 126, 127, 128, 129, 130, 131, 132, 133, 134, 135, 136, 137, 138, 139, 140, 141, 142, 143, 144, 145, 146, 147] (by decide +kernel) (by decide +kernel)
set_option maxRecDepth 20000 in
theorem gX6_digest_X6_tideAt : GoodIn wsX6_digest (wsV RX6 112 RX6 yX6_tideAt wsX6_tideAt) := goodIn_app (goodIn_of _ (by decide +kernel)) ggX6_digest_X6_tideAt
set_option maxRecDepth 20000 in
theorem ggX6_digest_X6_dinnerNow : GoodIn wsX6_digest wsX6_dinnerNow := goodIn_r _ [62, 63, 64, 65, 10, 66, 3, 67, 68, 69, 18, 19, 20, 21, 22, 23, 24, 25, 13, 12, 26, 27, 28, 29, 4, 30, 31, 32, 33, 34, 35, 36, 37, 38, 39, 114, 115, 116, 117, 118, 119, 120, 121, 122, 123, 124, 125, 126, 127, 128, 129, 130, 131, 132, 133, 134, 135, 136, 137, 138, 139, 140, 141, 142, 143, 144, 145, 146, 147] (by decide +kernel) (by decide +kernel)
set_option maxRecDepth 20000 in
theorem gX6_digest_X6_dinnerNow : GoodIn wsX6_digest (wsV RX6 157 RX6 yX6_dinnerNow wsX6_dinnerNow) := goodIn_app (goodIn_of _ (by decide +kernel)) ggX6_digest_X6_dinnerNow
set_option maxRecDepth 20000 in
theorem ggX6_digest_X6_bestNow : GoodIn wsX6_digest wsX6_bestNow := goodIn_r _ [73, 30, 74, 75, 76, 10, 77, 31, 4, 32, 78, 79, 80, 81, 3, 14, 15, 16, 17, 18, 19, 20, 21, 22, 23, 24, 25, 13, 12, 26, 27, 28, 29, 33, 34, 35, 36, 37, 38, 39, 114, 115, 116, 117, 118, 119, 120, 121, 122, 123, 124, 125, 126, 127, 128, 129, 130, 131, 132, 133, 134, 135, 136, 137, 138, 139, 140, 141, 142, 143, 144, 145, 146, 147] (by decide +kernel) (by decide +kernel)
set_option maxRecDepth 20000 in
theorem gX6_digest_X6_bestNow : GoodIn wsX6_digest (wsV RX6 167 RX6 yX6_bestNow wsX6_bestNow) := goodIn_app (goodIn_of _ (by decide +kernel)) ggX6_digest_X6_bestNow
set_option maxRecDepth 20000 in
theorem ggX6_digest_X6_hoursNow : GoodIn wsX6_digest wsX6_hoursNow := goodIn_r _ [85, 86, 87, 88, 10, 89, 90, 91, 92, 93, 94, 30, 74, 75, 76, 77, 31, 4, 32, 18, 19, 20, 21, 22, 23, 24, 25, 13, 12, 26, 27, 28, 29, 33, 34, 35, 36, 37, 38, 39, 114, 115, 116, 117, 118, 119, 120, 121, 122, 123, 124, 125, 126, 127, 128, 129, 130, 131, 132, 133, 134, 135, 136, 137, 138, 139, 140, 141, 142, 143, 144, 145, 146, 147] (by decide +kernel) (by decide +kernel)
set_option maxRecDepth 20000 in
theorem gX6_digest_X6_hoursNow : GoodIn wsX6_digest (wsV RX6 173 RX6 yX6_hoursNow wsX6_hoursNow) := goodIn_app (goodIn_of _ (by decide +kernel)) ggX6_digest_X6_hoursNow
set_option maxRecDepth 20000 in
theorem ggX6_digest_X6_askNow : GoodIn wsX6_digest wsX6_askNow := goodIn_r _ [98, 90, 99, 3, 82, 83, 84, 10, 85, 86, 87, 88, 89, 91, 92, 93, 94, 30, 74, 75, 76, 77, 31, 4, 32, 18, 19, 20, 21, 22, 23, 24, 25, 13, 12, 26, 27, 28, 29, 33, 34, 35, 36, 37, 38, 39, 100, 101, 102, 103, 67, 68, 69, 114, 115, 116, 117, 118, 119, 120, 121, 122, 123, 124, 125, 126, 127, 128, 129, 130, 131, 132, 133, 134, 135, 136, 137, 138, 139, 140, 141, 142, 143, 144, 145, 146, 147] (by decide +kernel) (by decide +kernel)
set_option maxRecDepth 20000 in
theorem gX6_digest_X6_askNow : GoodIn wsX6_digest (wsV RX6 181 RX6 yX6_askNow wsX6_askNow) := goodIn_app (goodIn_of _ (by decide +kernel)) ggX6_digest_X6_askNow
set_option maxRecDepth 20000 in
theorem ggX6_digest_X6_howMany : GoodIn wsX6_digest wsX6_howMany := goodIn_r _ [107, 3, 4, 108, 90, 5, 109, 110, 111, 112, 10, 113, 26, 27, 28, 29, 30, 31, 32, 78, 79, 80, 81, 14, 15, 16, 17, 18, 19, 20, 21, 22, 23, 24, 25, 13, 12, 33, 34, 35, 36, 37, 38, 39, 114, 115, 116, 117, 118, 119, 120, 121, 122, 123, 124, 125, 126, 127, 128, 129, 130, 131, 132, 133, 134, 135, 136, 137, 138, 139, 140, 141, 142, 143, 144, 145, 146, 147] (by decide +kernel) (by decide +kernel)
set_option maxRecDepth 20000 in
theorem gX6_digest_X6_howMany : GoodIn wsX6_digest (wsV RX6 220 RX6 yX6_howMany wsX6_howMany) := goodIn_app (goodIn_of _ (by decide +kernel)) ggX6_digest_X6_howMany
theorem dX6_digest_0 : decode cX6_digest 0 = .ok (.aload_n 0, 1) := by decide +kernel
theorem dX6_digest_1 : decode cX6_digest 1 = .ok (.ldc2_w 228, 3) := by decide +kernel
theorem dX6_digest_4 : decode cX6_digest 4 = .ok (.putfield 225, 3) := by decide +kernel
theorem dX6_digest_7 : decode cX6_digest 7 = .ok (.iconst 0, 1) := by decide +kernel
theorem dX6_digest_8 : decode cX6_digest 8 = .ok (.istore_n 1, 1) := by decide +kernel
theorem dX6_digest_9 : decode cX6_digest 9 = .ok (.iload_n 1, 1) := by decide +kernel
theorem dX6_digest_10 : decode cX6_digest 10 = .ok (.aload_n 0, 1) := by decide +kernel
theorem dX6_digest_11 : decode cX6_digest 11 = .ok (.getfield 94, 3) := by decide +kernel
theorem dX6_digest_14 : decode cX6_digest 14 = .ok (.if_icmp .ge 45, 3) := by decide +kernel
theorem dX6_digest_17 : decode cX6_digest 17 = .ok (.iconst 0, 1) := by decide +kernel
theorem dX6_digest_18 : decode cX6_digest 18 = .ok (.istore_n 2, 1) := by decide +kernel
theorem dX6_digest_19 : decode cX6_digest 19 = .ok (.iload_n 2, 1) := by decide +kernel
theorem dX6_digest_20 : decode cX6_digest 20 = .ok (.bipush 22, 2) := by decide +kernel
theorem dX6_digest_22 : decode cX6_digest 22 = .ok (.if_icmp .ge 31, 3) := by decide +kernel
theorem dX6_digest_25 : decode cX6_digest 25 = .ok (.iload_n 2, 1) := by decide +kernel
theorem dX6_digest_26 : decode cX6_digest 26 = .ok (.iconst 5, 1) := by decide +kernel
theorem dX6_digest_27 : decode cX6_digest 27 = .ok (.if_icmp .lt 9, 3) := by decide +kernel
theorem dX6_digest_30 : decode cX6_digest 30 = .ok (.iload_n 2, 1) := by decide +kernel
theorem dX6_digest_31 : decode cX6_digest 31 = .ok (.bipush 9, 2) := by decide +kernel
theorem dX6_digest_33 : decode cX6_digest 33 = .ok (.if_icmp .le 14, 3) := by decide +kernel
theorem dX6_digest_36 : decode cX6_digest 36 = .ok (.aload_n 0, 1) := by decide +kernel
theorem dX6_digest_37 : decode cX6_digest 37 = .ok (.aload_n 0, 1) := by decide +kernel
theorem dX6_digest_38 : decode cX6_digest 38 = .ok (.iload_n 1, 1) := by decide +kernel
theorem dX6_digest_39 : decode cX6_digest 39 = .ok (.iload_n 2, 1) := by decide +kernel
theorem dX6_digest_40 : decode cX6_digest 40 = .ok (.invokevirtual 138, 3) := by decide +kernel
theorem dX6_digest_43 : decode cX6_digest 43 = .ok (.i2l, 1) := by decide +kernel
theorem dX6_digest_44 : decode cX6_digest 44 = .ok (.invokevirtual 230, 3) := by decide +kernel
theorem dX6_digest_47 : decode cX6_digest 47 = .ok (.iinc 2 1, 3) := by decide +kernel
theorem dX6_digest_50 : decode cX6_digest 50 = .ok (.goto (-31), 3) := by decide +kernel
theorem dX6_digest_53 : decode cX6_digest 53 = .ok (.iinc 1 1, 3) := by decide +kernel
theorem dX6_digest_56 : decode cX6_digest 56 = .ok (.goto (-47), 3) := by decide +kernel
theorem dX6_digest_59 : decode cX6_digest 59 = .ok (.iconst 0, 1) := by decide +kernel
theorem dX6_digest_60 : decode cX6_digest 60 = .ok (.istore_n 1, 1) := by decide +kernel
theorem dX6_digest_61 : decode cX6_digest 61 = .ok (.iload_n 1, 1) := by decide +kernel
theorem dX6_digest_62 : decode cX6_digest 62 = .ok (.aload_n 0, 1) := by decide +kernel
theorem dX6_digest_63 : decode cX6_digest 63 = .ok (.getfield 97, 3) := by decide +kernel
theorem dX6_digest_66 : decode cX6_digest 66 = .ok (.if_icmp .ge 33, 3) := by decide +kernel
theorem dX6_digest_69 : decode cX6_digest 69 = .ok (.iconst 0, 1) := by decide +kernel
theorem dX6_digest_70 : decode cX6_digest 70 = .ok (.istore_n 2, 1) := by decide +kernel
theorem dX6_digest_71 : decode cX6_digest 71 = .ok (.iload_n 2, 1) := by decide +kernel
theorem dX6_digest_72 : decode cX6_digest 72 = .ok (.iconst 3, 1) := by decide +kernel
theorem dX6_digest_73 : decode cX6_digest 73 = .ok (.if_icmp .ge 20, 3) := by decide +kernel
theorem dX6_digest_76 : decode cX6_digest 76 = .ok (.aload_n 0, 1) := by decide +kernel
theorem dX6_digest_77 : decode cX6_digest 77 = .ok (.aload_n 0, 1) := by decide +kernel
theorem dX6_digest_78 : decode cX6_digest 78 = .ok (.iload_n 1, 1) := by decide +kernel
theorem dX6_digest_79 : decode cX6_digest 79 = .ok (.iload_n 2, 1) := by decide +kernel
theorem dX6_digest_80 : decode cX6_digest 80 = .ok (.invokevirtual 147, 3) := by decide +kernel
theorem dX6_digest_83 : decode cX6_digest 83 = .ok (.i2l, 1) := by decide +kernel
theorem dX6_digest_84 : decode cX6_digest 84 = .ok (.invokevirtual 230, 3) := by decide +kernel
theorem dX6_digest_87 : decode cX6_digest 87 = .ok (.iinc 2 1, 3) := by decide +kernel
theorem dX6_digest_90 : decode cX6_digest 90 = .ok (.goto (-19), 3) := by decide +kernel
theorem dX6_digest_93 : decode cX6_digest 93 = .ok (.iinc 1 1, 3) := by decide +kernel
theorem dX6_digest_96 : decode cX6_digest 96 = .ok (.goto (-35), 3) := by decide +kernel
theorem dX6_digest_99 : decode cX6_digest 99 = .ok (.aload_n 0, 1) := by decide +kernel
theorem dX6_digest_100 : decode cX6_digest 100 = .ok (.getfield 94, 3) := by decide +kernel
theorem dX6_digest_103 : decode cX6_digest 103 = .ok (.ifCond .le 86, 3) := by decide +kernel
theorem dX6_digest_106 : decode cX6_digest 106 = .ok (.iconst 0, 1) := by decide +kernel
theorem dX6_digest_107 : decode cX6_digest 107 = .ok (.istore_n 1, 1) := by decide +kernel
theorem dX6_digest_108 : decode cX6_digest 108 = .ok (.iload_n 1, 1) := by decide +kernel
theorem dX6_digest_109 : decode cX6_digest 109 = .ok (.bipush 12, 2) := by decide +kernel
theorem dX6_digest_111 : decode cX6_digest 111 = .ok (.if_icmp .ge 19, 3) := by decide +kernel
theorem dX6_digest_114 : decode cX6_digest 114 = .ok (.aload_n 0, 1) := by decide +kernel
theorem dX6_digest_115 : decode cX6_digest 115 = .ok (.aload_n 0, 1) := by decide +kernel
theorem dX6_digest_116 : decode cX6_digest 116 = .ok (.iload_n 1, 1) := by decide +kernel
theorem dX6_digest_117 : decode cX6_digest 117 = .ok (.invokevirtual 112, 3) := by decide +kernel
theorem dX6_digest_120 : decode cX6_digest 120 = .ok (.i2l, 1) := by decide +kernel
theorem dX6_digest_121 : decode cX6_digest 121 = .ok (.invokevirtual 230, 3) := by decide +kernel
theorem dX6_digest_124 : decode cX6_digest 124 = .ok (.iinc 1 1, 3) := by decide +kernel
theorem dX6_digest_127 : decode cX6_digest 127 = .ok (.goto (-19), 3) := by decide +kernel
theorem dX6_digest_130 : decode cX6_digest 130 = .ok (.aload_n 0, 1) := by decide +kernel
theorem dX6_digest_131 : decode cX6_digest 131 = .ok (.aload_n 0, 1) := by decide +kernel
theorem dX6_digest_132 : decode cX6_digest 132 = .ok (.iconst 1, 1) := by decide +kernel
theorem dX6_digest_133 : decode cX6_digest 133 = .ok (.aload_n 0, 1) := by decide +kernel
theorem dX6_digest_134 : decode cX6_digest 134 = .ok (.getfield 94, 3) := by decide +kernel
theorem dX6_digest_137 : decode cX6_digest 137 = .ok (.ishl, 1) := by decide +kernel
theorem dX6_digest_138 : decode cX6_digest 138 = .ok (.iconst 1, 1) := by decide +kernel
theorem dX6_digest_139 : decode cX6_digest 139 = .ok (.isub, 1) := by decide +kernel
theorem dX6_digest_140 : decode cX6_digest 140 = .ok (.iconst 2, 1) := by decide +kernel
theorem dX6_digest_141 : decode cX6_digest 141 = .ok (.invokevirtual 157, 3) := by decide +kernel
theorem dX6_digest_144 : decode cX6_digest 144 = .ok (.i2l, 1) := by decide +kernel
theorem dX6_digest_145 : decode cX6_digest 145 = .ok (.invokevirtual 230, 3) := by decide +kernel
theorem dX6_digest_148 : decode cX6_digest 148 = .ok (.aload_n 0, 1) := by decide +kernel
theorem dX6_digest_149 : decode cX6_digest 149 = .ok (.aload_n 0, 1) := by decide +kernel
theorem dX6_digest_150 : decode cX6_digest 150 = .ok (.iconst 5, 1) := by decide +kernel
theorem dX6_digest_151 : decode cX6_digest 151 = .ok (.iconst 0, 1) := by decide +kernel
theorem dX6_digest_152 : decode cX6_digest 152 = .ok (.invokevirtual 167, 3) := by decide +kernel
theorem dX6_digest_155 : decode cX6_digest 155 = .ok (.i2l, 1) := by decide +kernel
theorem dX6_digest_156 : decode cX6_digest 156 = .ok (.invokevirtual 230, 3) := by decide +kernel
theorem dX6_digest_159 : decode cX6_digest 159 = .ok (.aload_n 0, 1) := by decide +kernel
theorem dX6_digest_160 : decode cX6_digest 160 = .ok (.aload_n 0, 1) := by decide +kernel
theorem dX6_digest_161 : decode cX6_digest 161 = .ok (.iconst 5, 1) := by decide +kernel
theorem dX6_digest_162 : decode cX6_digest 162 = .ok (.iconst 1, 1) := by decide +kernel
theorem dX6_digest_163 : decode cX6_digest 163 = .ok (.invokevirtual 167, 3) := by decide +kernel
theorem dX6_digest_166 : decode cX6_digest 166 = .ok (.i2l, 1) := by decide +kernel
theorem dX6_digest_167 : decode cX6_digest 167 = .ok (.invokevirtual 230, 3) := by decide +kernel
theorem dX6_digest_170 : decode cX6_digest 170 = .ok (.aload_n 0, 1) := by decide +kernel
theorem dX6_digest_171 : decode cX6_digest 171 = .ok (.aload_n 0, 1) := by decide +kernel
theorem dX6_digest_172 : decode cX6_digest 172 = .ok (.invokevirtual 173, 3) := by decide +kernel
theorem dX6_digest_175 : decode cX6_digest 175 = .ok (.i2l, 1) := by decide +kernel
theorem dX6_digest_176 : decode cX6_digest 176 = .ok (.invokevirtual 230, 3) := by decide +kernel
theorem dX6_digest_179 : decode cX6_digest 179 = .ok (.aload_n 0, 1) := by decide +kernel
theorem dX6_digest_180 : decode cX6_digest 180 = .ok (.aload_n 0, 1) := by decide +kernel
theorem dX6_digest_181 : decode cX6_digest 181 = .ok (.iconst 4, 1) := by decide +kernel
theorem dX6_digest_182 : decode cX6_digest 182 = .ok (.invokevirtual 181, 3) := by decide +kernel
theorem dX6_digest_185 : decode cX6_digest 185 = .ok (.i2l, 1) := by decide +kernel
theorem dX6_digest_186 : decode cX6_digest 186 = .ok (.invokevirtual 230, 3) := by decide +kernel
theorem dX6_digest_189 : decode cX6_digest 189 = .ok (.iconst 0, 1) := by decide +kernel
theorem dX6_digest_190 : decode cX6_digest 190 = .ok (.istore_n 1, 1) := by decide +kernel
theorem dX6_digest_191 : decode cX6_digest 191 = .ok (.iload_n 1, 1) := by decide +kernel
theorem dX6_digest_192 : decode cX6_digest 192 = .ok (.aload_n 0, 1) := by decide +kernel
theorem dX6_digest_193 : decode cX6_digest 193 = .ok (.getfield 66, 3) := by decide +kernel
theorem dX6_digest_196 : decode cX6_digest 196 = .ok (.if_icmp .ge 20, 3) := by decide +kernel
theorem dX6_digest_199 : decode cX6_digest 199 = .ok (.aload_n 0, 1) := by decide +kernel
theorem dX6_digest_200 : decode cX6_digest 200 = .ok (.aload_n 0, 1) := by decide +kernel
theorem dX6_digest_201 : decode cX6_digest 201 = .ok (.getfield 34, 3) := by decide +kernel
theorem dX6_digest_204 : decode cX6_digest 204 = .ok (.iload_n 1, 1) := by decide +kernel
theorem dX6_digest_205 : decode cX6_digest 205 = .ok (.baload, 1) := by decide +kernel
theorem dX6_digest_206 : decode cX6_digest 206 = .ok (.i2l, 1) := by decide +kernel
theorem dX6_digest_207 : decode cX6_digest 207 = .ok (.invokevirtual 230, 3) := by decide +kernel
theorem dX6_digest_210 : decode cX6_digest 210 = .ok (.iinc 1 1, 3) := by decide +kernel
theorem dX6_digest_213 : decode cX6_digest 213 = .ok (.goto (-22), 3) := by decide +kernel
theorem dX6_digest_216 : decode cX6_digest 216 = .ok (.iconst 0, 1) := by decide +kernel
theorem dX6_digest_217 : decode cX6_digest 217 = .ok (.istore_n 1, 1) := by decide +kernel
theorem dX6_digest_218 : decode cX6_digest 218 = .ok (.iload_n 1, 1) := by decide +kernel
theorem dX6_digest_219 : decode cX6_digest 219 = .ok (.bipush 9, 2) := by decide +kernel
theorem dX6_digest_221 : decode cX6_digest 221 = .ok (.if_icmp .ge 19, 3) := by decide +kernel
theorem dX6_digest_224 : decode cX6_digest 224 = .ok (.aload_n 0, 1) := by decide +kernel
theorem dX6_digest_225 : decode cX6_digest 225 = .ok (.aload_n 0, 1) := by decide +kernel
theorem dX6_digest_226 : decode cX6_digest 226 = .ok (.iload_n 1, 1) := by decide +kernel
theorem dX6_digest_227 : decode cX6_digest 227 = .ok (.invokevirtual 220, 3) := by decide +kernel
theorem dX6_digest_230 : decode cX6_digest 230 = .ok (.i2l, 1) := by decide +kernel
theorem dX6_digest_231 : decode cX6_digest 231 = .ok (.invokevirtual 230, 3) := by decide +kernel
theorem dX6_digest_234 : decode cX6_digest 234 = .ok (.iinc 1 1, 3) := by decide +kernel
theorem dX6_digest_237 : decode cX6_digest 237 = .ok (.goto (-19), 3) := by decide +kernel
theorem dX6_digest_240 : decode cX6_digest 240 = .ok (.aload_n 0, 1) := by decide +kernel
theorem dX6_digest_241 : decode cX6_digest 241 = .ok (.getfield 225, 3) := by decide +kernel
theorem dX6_digest_244 : decode cX6_digest 244 = .ok (.lreturn, 1) := by decide +kernel
theorem dJ9_max_7cf53_0 : decode cJ9_max_7cf53 0 = .ok (.iload_n 0, 1) := by decide +kernel
theorem dJ9_max_7cf53_1 : decode cJ9_max_7cf53 1 = .ok (.iload_n 1, 1) := by decide +kernel
theorem dJ9_max_7cf53_2 : decode cJ9_max_7cf53 2 = .ok (.if_icmp .lt 7, 3) := by decide +kernel
theorem dJ9_max_7cf53_5 : decode cJ9_max_7cf53 5 = .ok (.iload_n 0, 1) := by decide +kernel
theorem dJ9_max_7cf53_6 : decode cJ9_max_7cf53 6 = .ok (.goto 4, 3) := by decide +kernel
theorem dJ9_max_7cf53_9 : decode cJ9_max_7cf53 9 = .ok (.iload_n 1, 1) := by decide +kernel
theorem dJ9_max_7cf53_10 : decode cJ9_max_7cf53 10 = .ok (.ireturn, 1) := by decide +kernel
theorem dJ9_min_7cf53_0 : decode cJ9_min_7cf53 0 = .ok (.iload_n 0, 1) := by decide +kernel
theorem dJ9_min_7cf53_1 : decode cJ9_min_7cf53 1 = .ok (.iload_n 1, 1) := by decide +kernel
theorem dJ9_min_7cf53_2 : decode cJ9_min_7cf53 2 = .ok (.if_icmp .gt 7, 3) := by decide +kernel
theorem dJ9_min_7cf53_5 : decode cJ9_min_7cf53 5 = .ok (.iload_n 0, 1) := by decide +kernel
theorem dJ9_min_7cf53_6 : decode cJ9_min_7cf53 6 = .ok (.goto 4, 3) := by decide +kernel
theorem dJ9_min_7cf53_9 : decode cJ9_min_7cf53 9 = .ok (.iload_n 1, 1) := by decide +kernel
theorem dJ9_min_7cf53_10 : decode cJ9_min_7cf53 10 = .ok (.ireturn, 1) := by decide +kernel
set_option maxRecDepth 20000 in
theorem ggL_law_X5_init : GoodIn wsL_law wsX5_init := goodIn_r _ [8, 9, 10, 11, 12, 13, 14, 15, 16, 17, 18, 19, 20, 21, 22, 23, 24, 25, 26, 27, 28, 29, 30, 31, 32, 33, 34, 35, 36, 37, 38, 39, 40, 41, 42, 43, 44, 45, 46, 47, 48, 49, 50, 51, 52, 53, 54, 55, 56, 57, 58, 59, 725, 726, 682, 683, 684, 685, 686, 687, 688, 689, 690, 727, 728, 729, 730, 731, 732, 733, 734, 735, 736, 737, 738, 739] (by decide +kernel) (by decide +kernel)
set_option maxRecDepth 20000 in
theorem gL_law_X5_init : GoodIn wsL_law (wsX5_init) := ggL_law_X5_init
set_option maxRecDepth 20000 in
theorem ggL_law_X6_init : GoodIn wsL_law wsX6_init := goodIn_r _ [62, 63, 10, 11, 16, 64, 65, 66, 67, 68, 69, 70, 71, 72, 73, 74, 75, 76, 77, 78, 79, 80, 81, 691, 692, 693, 694, 695, 696, 697, 698, 699, 700, 701, 702, 703, 704, 705, 706, 707, 708, 709, 710, 711, 712, 713, 714, 715, 716, 717, 718, 719, 720, 721, 722, 723, 724] (by decide +kernel) (by decide +kernel)
set_option maxRecDepth 20000 in
theorem gL_law_X6_init : GoodIn wsL_law (wsX6_init) := ggL_law_X6_init
set_option maxRecDepth 20000 in
theorem ggL_law_X5_letter : GoodIn wsL_law wsX5_letter := goodIn_r _ [85, 15, 86, 87, 2, 88, 89, 90, 91, 14, 92, 93, 31, 94, 95, 96, 97, 682, 683, 684, 685, 686, 687, 688, 689, 690, 725, 726] (by decide +kernel) (by decide +kernel)
set_option maxRecDepth 20000 in
theorem gL_law_X5_letter : GoodIn wsL_law (wsV RL 13 RX5 yX5_letter wsX5_letter) := goodIn_app (goodIn_of _ (by decide +kernel)) ggL_law_X5_letter
set_option maxRecDepth 20000 in
theorem ggL_law_X6_letter : GoodIn wsL_law wsX6_letter := goodIn_r _ [101, 102, 73, 103, 104, 5, 105, 691, 692, 693, 694, 695, 696, 697, 698, 699, 700, 701, 702, 703, 704, 705, 706, 707, 708, 709, 710, 711, 712, 713, 714, 715, 716, 717, 718, 719, 720, 721, 722, 723, 724] (by decide +kernel) (by decide +kernel)
set_option maxRecDepth 20000 in
theorem gL_law_X6_letter : GoodIn wsL_law (wsV RL 17 RX6 yX6_letter wsX6_letter) := goodIn_app (goodIn_of _ (by decide +kernel)) ggL_law_X6_letter
set_option maxRecDepth 20000 in
theorem ggL_law_X5_blank : GoodIn wsL_law wsX5_blank := goodIn_r _ [109, 15, 110, 111, 112, 14, 113, 93, 682, 683, 684, 685, 686, 687, 688, 689, 690, 725, 726] (by decide +kernel) (by decide +kernel)
set_option maxRecDepth 20000 in
theorem gL_law_X5_blank : GoodIn wsL_law (wsV RL 18 RX5 yX5_blank wsX5_blank) := goodIn_app (goodIn_of _ (by decide +kernel)) ggL_law_X5_blank
set_option maxRecDepth 20000 in
theorem ggL_law_X6_blank : GoodIn wsL_law wsX6_blank := goodIn_r _ [117, 102, 691, 692, 693, 694, 695, 696, 697, 698, 699, 700, 701, 702, 703, 704, 705, 706, 707, 708, 709, 710, 711, 712, 713, 714, 715, 716, 717, 718, 719, 720, 721, 722, 723, 724] (by decide +kernel) (by decide +kernel)
set_option maxRecDepth 20000 in
theorem gL_law_X6_blank : GoodIn wsL_law (wsV RL 22 RX6 yX6_blank wsX6_blank) := goodIn_app (goodIn_of _ (by decide +kernel)) ggL_law_X6_blank
set_option maxRecDepth 20000 in
theorem ggL_law_X5_fault : GoodIn wsL_law wsX5_fault := goodIn_r _ [121, 15, 122, 123, 124, 14, 125, 93, 126, 127, 128, 129, 130, 131, 132, 133, 31, 87, 2, 88, 134, 135, 136, 137, 138, 139, 140, 141, 682, 683, 684, 685, 686, 687, 688, 689, 690, 725, 726] (by decide +kernel) (by decide +kernel)
set_option maxRecDepth 20000 in
theorem gL_law_X5_fault : GoodIn wsL_law (wsV RL 23 RX5 yX5_fault wsX5_fault) := goodIn_app (goodIn_of _ (by decide +kernel)) ggL_law_X5_fault
set_option maxRecDepth 20000 in
theorem ggL_law_X6_fault : GoodIn wsL_law wsX6_fault := goodIn_r _ [145, 146, 147, 148, 5, 149, 150, 151, 152, 102, 73, 153, 154, 155, 156, 157, 158, 159, 103, 104, 105, 160, 161, 162, 163, 691, 692, 693, 694, 695, 696, 697, 698, 699, 700, 701, 702, 703, 704, 705, 706, 707, 708, 709, 710, 711, 712, 713, 714, 715, 716, 717, 718, 719, 720, 721, 722, 723, 724] (by decide +kernel) (by decide +kernel)
set_option maxRecDepth 20000 in
theorem gL_law_X6_fault : GoodIn wsL_law (wsV RL 26 RX6 yX6_fault wsX6_fault) := goodIn_app (goodIn_of _ (by decide +kernel)) ggL_law_X6_fault
set_option maxRecDepth 20000 in
theorem ggL_law_X5_colony : GoodIn wsL_law wsX5_colony := goodIn_r _ [167, 15, 168, 21, 17, 169, 170, 171, 172, 173, 174, 14, 175, 93, 126, 127, 128, 129, 130, 131, 132, 133, 31, 87, 2, 88, 176, 123, 124, 125, 134, 135, 136, 137, 138, 139, 140, 141, 177, 178, 179, 180, 20, 181, 39, 43, 182, 183, 184, 185, 38, 186, 187, 188, 189, 190, 42, 191, 192, 193, 194, 195, 196, 197, 198, 199, 200, 201, 202, 35, 94, 95, 96, 97, 203, 204, 205, 206, 47, 48, 110, 111, 112, 113, 682, 683, 684, 685, 686, 687, 688, 689, 690, 727, 728, 729, 730, 725, 726, 732, 733, 734, 735, 736, 737, 738, 739] (by decide +kernel) (by decide +kernel)
set_option maxRecDepth 20000 in
theorem gL_law_X5_colony : GoodIn wsL_law (wsV RL 27 RX5 yX5_colony wsX5_colony) := goodIn_app (goodIn_of _ (by decide +kernel)) ggL_law_X5_colony
set_option maxRecDepth 20000 in
theorem ggL_law_X6_colony : GoodIn wsL_law wsX6_colony := goodIn_r _ [210, 150, 151, 211, 152, 212, 64, 73, 65, 66, 67, 213, 214, 215, 102, 146, 147, 148, 5, 149, 153, 154, 155, 156, 157, 158, 159, 103, 104, 105, 160, 161, 162, 163, 691, 692, 693, 694, 695, 696, 697, 698, 699, 700, 701, 702, 703, 704, 705, 706, 707, 708, 709, 710, 711, 712, 713, 714, 715, 716, 717, 718, 719, 720, 721, 722, 723, 724] (by decide +kernel) (by decide +kernel)
set_option maxRecDepth 20000 in
theorem gL_law_X6_colony : GoodIn wsL_law (wsV RL 30 RX6 yX6_colony wsX6_colony) := goodIn_app (goodIn_of _ (by decide +kernel)) ggL_law_X6_colony
set_option maxRecDepth 20000 in
theorem ggL_law_X5_about : GoodIn wsL_law wsX5_about := goodIn_r _ [219, 21, 220, 221, 222, 2, 223, 168, 86, 87, 88, 224, 225, 226, 227, 26, 169, 228, 229, 230, 25, 231, 59, 232, 233, 234, 38, 235, 187, 236, 237, 238, 239, 47, 240, 241, 242, 243, 244, 245, 246, 247, 48, 248, 249, 250, 251, 252, 253, 254, 255, 256, 257, 258, 259, 17, 260, 261, 262, 20, 263, 35, 264, 265, 266, 267, 268, 269, 270, 271, 272, 273, 274, 275, 276, 277, 278, 279, 280, 281, 282, 283, 284, 285, 286, 287, 288, 289, 290, 682, 683, 684, 685, 686, 687, 688, 689, 690, 727, 728, 729, 730, 731, 732, 733, 734] (by decide +kernel) (by decide +kernel)
set_option maxRecDepth 20000 in
theorem gL_law_X5_about : GoodIn wsL_law (wsV RL 31 RX5 yX5_about wsX5_about) := goodIn_app (goodIn_of _ (by decide +kernel)) ggL_law_X5_about
set_option maxRecDepth 20000 in
theorem ggL_law_X6_about : GoodIn wsL_law wsX6_about := goodIn_r _ [294, 295, 296, 297, 5, 298, 211, 103, 104, 105, 299, 300, 301, 302, 64, 65, 303, 304, 305, 306, 307, 308, 309, 310, 311, 312, 313, 314, 315, 316, 317, 318, 212, 319, 66, 67, 320, 321, 322, 323, 324, 325, 326, 327, 328, 329, 330, 691, 692, 693, 694, 695, 696, 697, 698, 699, 700, 701, 702, 703, 704, 705, 706, 707, 708, 709, 710, 711, 712, 713, 714, 715, 716, 717, 718, 719, 720, 721, 722, 723, 724] (by decide +kernel) (by decide +kernel)
set_option maxRecDepth 20000 in
theorem gL_law_X6_about : GoodIn wsL_law (wsV RL 35 RX6 yX6_about wsX6_about) := goodIn_app (goodIn_of _ (by decide +kernel)) ggL_law_X6_about
set_option maxRecDepth 20000 in
theorem ggL_law_X5_as : GoodIn wsL_law wsX5_as := goodIn_r _ [334, 220, 221, 222, 2, 223, 168, 86, 87, 88, 256, 257, 258, 259, 17, 682, 683, 684, 685, 686, 687, 688, 689, 690] (by decide +kernel) (by decide +kernel)
set_option maxRecDepth 20000 in
theorem gL_law_X5_as : GoodIn wsL_law (wsV RL 36 RX5 yX5_as wsX5_as) := goodIn_app (goodIn_of _ (by decide +kernel)) ggL_law_X5_as
set_option maxRecDepth 20000 in
theorem ggL_law_X6_as : GoodIn wsL_law wsX6_as := goodIn_r _ [338, 64, 295, 296, 297, 5, 298, 211, 103, 104, 105, 691, 692, 693, 694, 695, 696, 697, 698, 699, 700, 701, 702, 703, 704, 705, 706, 707, 708, 709, 710, 711, 712, 713, 714, 715, 716, 717, 718, 719, 720, 721, 722, 723, 724] (by decide +kernel) (by decide +kernel)
set_option maxRecDepth 20000 in
theorem gL_law_X6_as : GoodIn wsL_law (wsV RL 39 RX6 yX6_as wsX6_as) := goodIn_app (goodIn_of _ (by decide +kernel)) ggL_law_X6_as
set_option maxRecDepth 20000 in
theorem ggL_law_X5_raise : GoodIn wsL_law wsX5_raise := goodIn_r _ [342, 21, 343, 220, 221, 222, 2, 223, 168, 86, 87, 88, 260, 261, 262, 20, 263, 35, 199, 200, 201, 202, 682, 683, 684, 685, 686, 687, 688, 689, 690, 727, 728, 729, 730] (by decide +kernel) (by decide +kernel)
set_option maxRecDepth 20000 in
theorem gL_law_X5_raise : GoodIn wsL_law (wsV RL 40 RX5 yX5_raise wsX5_raise) := goodIn_app (goodIn_of _ (by decide +kernel)) ggL_law_X5_raise
set_option maxRecDepth 20000 in
theorem ggL_law_X6_raise : GoodIn wsL_law wsX6_raise := goodIn_r _ [347, 65, 214, 295, 296, 297, 5, 298, 211, 103, 104, 105, 691, 692, 693, 694, 695, 696, 697, 698, 699, 700, 701, 702, 703, 704, 705, 706, 707, 708, 709, 710, 711, 712, 713, 714, 715, 716, 717, 718, 719, 720, 721, 722, 723, 724] (by decide +kernel) (by decide +kernel)
set_option maxRecDepth 20000 in
theorem gL_law_X6_raise : GoodIn wsL_law (wsV RL 43 RX6 yX6_raise wsX6_raise) := goodIn_app (goodIn_of _ (by decide +kernel)) ggL_law_X6_raise
set_option maxRecDepth 20000 in
theorem ggL_law_X5_tide : GoodIn wsL_law wsX5_tide := goodIn_r _ [351, 352, 353, 2, 354, 86, 87, 88, 355, 356, 357, 358, 168, 224, 225, 226, 227, 26, 21, 169, 228, 229, 230, 25, 231, 59, 232, 233, 234, 38, 235, 187, 236, 237, 238, 239, 47, 240, 241, 242, 243, 244, 245, 246, 247, 48, 248, 249, 250, 251, 252, 253, 254, 255, 276, 277, 278, 279, 280, 274, 275, 682, 683, 684, 685, 686, 687, 688, 689, 690, 727, 728, 729, 730, 731, 732, 733, 734] (by decide +kernel) (by decide +kernel)
set_option maxRecDepth 20000 in
theorem gL_law_X5_tide : GoodIn wsL_law (wsV RL 44 RX5 yX5_tide wsX5_tide) := goodIn_app (goodIn_of _ (by decide +kernel)) ggL_law_X5_tide
set_option maxRecDepth 20000 in
theorem ggL_law_X6_tide : GoodIn wsL_law wsX6_tide := goodIn_r _ [362, 211, 363, 364, 5, 365, 103, 104, 105, 315, 316, 317, 318, 212, 319, 66, 67, 691, 692, 693, 694, 695, 696, 697, 698, 699, 700, 701, 702, 703, 704, 705, 706, 707, 708, 709, 710, 711, 712, 713, 714, 715, 716, 717, 718, 719, 720, 721, 722, 723, 724] (by decide +kernel) (by decide +kernel)
set_option maxRecDepth 20000 in
theorem gL_law_X6_tide : GoodIn wsL_law (wsV RL 47 RX6 yX6_tide wsX6_tide) := goodIn_app (goodIn_of _ (by decide +kernel)) ggL_law_X6_tide
set_option maxRecDepth 20000 in
theorem ggL_law_X5_strike : GoodIn wsL_law wsX5_strike := goodIn_r _ [369, 21, 169, 343, 86, 87, 2, 88, 370, 371, 372, 355, 356, 357, 358, 168, 203, 204, 205, 38, 206, 187, 47, 48, 232, 233, 234, 235, 682, 683, 684, 685, 686, 687, 688, 689, 690, 727, 728, 729, 730, 732, 733, 734] (by decide +kernel) (by decide +kernel)
set_option maxRecDepth 20000 in
theorem gL_law_X5_strike : GoodIn wsL_law (wsV RL 48 RX5 yX5_strike wsX5_strike) := goodIn_app (goodIn_of _ (by decide +kernel)) ggL_law_X5_strike
set_option maxRecDepth 20000 in
theorem ggL_law_X6_strike : GoodIn wsL_law wsX6_strike := goodIn_r _ [376, 211, 212, 66, 67, 214, 103, 104, 5, 105, 691, 692, 693, 694, 695, 696, 697, 698, 699, 700, 701, 702, 703, 704, 705, 706, 707, 708, 709, 710, 711, 712, 713, 714, 715, 716, 717, 718, 719, 720, 721, 722, 723, 724] (by decide +kernel) (by decide +kernel)
set_option maxRecDepth 20000 in
theorem gL_law_X6_strike : GoodIn wsL_law (wsV RL 51 RX6 yX6_strike wsX6_strike) := goodIn_app (goodIn_of _ (by decide +kernel)) ggL_law_X6_strike
set_option maxRecDepth 20000 in
theorem ggL_law_X5_felt : GoodIn wsL_law wsX5_felt := goodIn_r _ [380, 21, 169, 343, 381, 241, 242, 38, 243, 187, 87, 2, 88, 86, 244, 245, 246, 247, 48, 240, 382, 383, 384, 385, 682, 683, 684, 685, 686, 687, 688, 689, 690, 727, 728, 729, 730, 732, 733, 734] (by decide +kernel) (by decide +kernel)
set_option maxRecDepth 20000 in
theorem gL_law_X5_felt : GoodIn wsL_law (wsV RL 52 RX5 yX5_felt wsX5_felt) := goodIn_app (goodIn_of _ (by decide +kernel)) ggL_law_X5_felt
set_option maxRecDepth 20000 in
theorem ggL_law_X6_felt : GoodIn wsL_law wsX6_felt := goodIn_r _ [389, 67, 214, 390, 391, 392, 5, 393, 212, 103, 104, 105, 691, 692, 693, 694, 695, 696, 697, 698, 699, 700, 701, 702, 703, 704, 705, 706, 707, 708, 709, 710, 711, 712, 713, 714, 715, 716, 717, 718, 719, 720, 721, 722, 723, 724] (by decide +kernel) (by decide +kernel)
set_option maxRecDepth 20000 in
theorem gL_law_X6_felt : GoodIn wsL_law (wsV RL 55 RX6 yX6_felt wsX6_felt) := goodIn_app (goodIn_of _ (by decide +kernel)) ggL_law_X6_felt
set_option maxRecDepth 20000 in
theorem ggL_law_X5_stroke : GoodIn wsL_law wsX5_stroke := goodIn_r _ [397, 21, 169, 381, 241, 242, 38, 243, 187, 87, 2, 88, 236, 237, 238, 239, 47, 240, 244, 245, 246, 247, 48, 398, 399, 400, 401, 402, 403, 682, 683, 684, 685, 686, 687, 688, 689, 690, 727, 728, 729, 730, 732, 733, 734] (by decide +kernel) (by decide +kernel)
set_option maxRecDepth 20000 in
theorem gL_law_X5_stroke : GoodIn wsL_law (wsV RL 56 RX5 yX5_stroke wsX5_stroke) := goodIn_app (goodIn_of _ (by decide +kernel)) ggL_law_X5_stroke
set_option maxRecDepth 20000 in
theorem ggL_law_X6_stroke : GoodIn wsL_law wsX6_stroke := goodIn_r _ [407, 390, 391, 392, 5, 393, 212, 103, 104, 105, 408, 409, 410, 411, 66, 67, 363, 364, 365, 691, 692, 693, 694, 695, 696, 697, 698, 699, 700, 701, 702, 703, 704, 705, 706, 707, 708, 709, 710, 711, 712, 713, 714, 715, 716, 717, 718, 719, 720, 721, 722, 723, 724] (by decide +kernel) (by decide +kernel)
set_option maxRecDepth 20000 in
theorem gL_law_X6_stroke : GoodIn wsL_law (wsV RL 59 RX6 yX6_stroke wsX6_stroke) := goodIn_app (goodIn_of _ (by decide +kernel)) ggL_law_X6_stroke
set_option maxRecDepth 20000 in
theorem ggL_law_X5_dinner : GoodIn wsL_law wsX5_dinner := goodIn_r _ [415, 416, 417, 418, 2, 419, 168, 86, 87, 88, 224, 225, 226, 227, 26, 21, 169, 228, 229, 230, 25, 231, 59, 232, 233, 234, 38, 235, 187, 236, 237, 238, 239, 47, 240, 241, 242, 243, 244, 245, 246, 247, 48, 248, 249, 250, 251, 252, 253, 254, 255, 420, 421, 422, 423, 268, 269, 270, 271, 272, 273, 274, 275, 260, 261, 262, 20, 263, 35, 256, 257, 258, 259, 17, 276, 277, 278, 279, 280, 281, 282, 283, 284, 285, 286, 682, 683, 684, 685, 686, 687, 688, 689, 690, 727, 728, 729, 730, 731, 732, 733, 734] (by decide +kernel) (by decide +kernel)
set_option maxRecDepth 20000 in
theorem gL_law_X5_dinner : GoodIn wsL_law (wsV RL 60 RX5 yX5_dinner wsX5_dinner) := goodIn_app (goodIn_of _ (by decide +kernel)) ggL_law_X5_dinner
set_option maxRecDepth 20000 in
theorem ggL_law_X6_dinner : GoodIn wsL_law wsX6_dinner := goodIn_r _ [427, 211, 103, 104, 5, 105, 428, 429, 430, 431, 432, 433, 434, 435, 436, 437, 438, 307, 308, 309, 310, 311, 312, 313, 314, 65, 64, 315, 316, 317, 318, 212, 319, 66, 67, 320, 321, 322, 323, 324, 325, 326, 691, 692, 693, 694, 695, 696, 697, 698, 699, 700, 701, 702, 703, 704, 705, 706, 707, 708, 709, 710, 711, 712, 713, 714, 715, 716, 717, 718, 719, 720, 721, 722, 723, 724] (by decide +kernel) (by decide +kernel)
set_option maxRecDepth 20000 in
theorem gL_law_X6_dinner : GoodIn wsL_law (wsV RL 63 RX6 yX6_dinner wsX6_dinner) := goodIn_app (goodIn_of _ (by decide +kernel)) ggL_law_X6_dinner
set_option maxRecDepth 20000 in
theorem ggL_law_X5_best : GoodIn wsL_law wsX5_best := goodIn_r _ [442, 168, 370, 371, 2, 372, 86, 87, 88, 355, 356, 357, 358, 224, 225, 226, 227, 26, 21, 169, 228, 229, 230, 25, 231, 59, 232, 233, 234, 38, 235, 187, 236, 237, 238, 239, 47, 240, 241, 242, 243, 244, 245, 246, 247, 48, 248, 249, 250, 251, 252, 253, 254, 255, 443, 444, 445, 446, 27, 447, 448, 449, 450, 451, 452, 453, 454, 264, 265, 266, 267, 268, 269, 270, 271, 272, 273, 274, 275, 260, 261, 262, 20, 263, 35, 256, 257, 258, 259, 17, 276, 277, 278, 279, 280, 281, 282, 283, 284, 285, 286, 682, 683, 684, 685, 686, 687, 688, 689, 690, 727, 728, 729, 730, 731, 732, 733, 734] (by decide +kernel) (by decide +kernel)
set_option maxRecDepth 20000 in
theorem gL_law_X5_best : GoodIn wsL_law (wsV RL 64 RX5 yX5_best wsX5_best) := goodIn_app (goodIn_of _ (by decide +kernel)) ggL_law_X5_best
set_option maxRecDepth 20000 in
theorem ggL_law_X6_best : GoodIn wsL_law wsX6_best := goodIn_r _ [458, 211, 103, 104, 5, 105, 459, 460, 461, 462, 319, 463, 464, 465, 466, 66, 212, 67, 467, 468, 469, 470, 303, 304, 305, 306, 307, 308, 309, 310, 311, 312, 313, 314, 65, 64, 315, 316, 317, 318, 320, 321, 322, 323, 324, 325, 326, 691, 692, 693, 694, 695, 696, 697, 698, 699, 700, 701, 702, 703, 704, 705, 706, 707, 708, 709, 710, 711, 712, 713, 714, 715, 716, 717, 718, 719, 720, 721, 722, 723, 724] (by decide +kernel) (by decide +kernel)
set_option maxRecDepth 20000 in
theorem gL_law_X6_best : GoodIn wsL_law (wsV RL 67 RX6 yX6_best wsX6_best) := goodIn_app (goodIn_of _ (by decide +kernel)) ggL_law_X6_best
set_option maxRecDepth 20000 in
theorem ggL_law_X5_hear : GoodIn wsL_law wsX5_hear := goodIn_r _ [474, 21, 475, 220, 221, 222, 2, 223, 168, 86, 87, 88, 352, 353, 354, 370, 371, 372, 476, 477, 478, 42, 479, 192, 52, 53, 54, 55, 480, 481, 482, 483, 682, 683, 684, 685, 686, 687, 688, 689, 690, 727, 728, 729, 730, 735, 736, 737, 738, 739] (by decide +kernel) (by decide +kernel)
set_option maxRecDepth 20000 in
theorem gL_law_X5_hear : GoodIn wsL_law (wsV RL 68 RX5 yX5_hear wsX5_hear) := goodIn_app (goodIn_of _ (by decide +kernel)) ggL_law_X5_hear
set_option maxRecDepth 20000 in
theorem ggL_law_X6_hear : GoodIn wsL_law wsX6_hear := goodIn_r _ [487, 215, 68, 69, 70, 71, 295, 296, 297, 5, 298, 211, 103, 104, 105, 363, 364, 365, 691, 692, 693, 694, 695, 696, 697, 698, 699, 700, 701, 702, 703, 704, 705, 706, 707, 708, 709, 710, 711, 712, 713, 714, 715, 716, 717, 718, 719, 720, 721, 722, 723, 724] (by decide +kernel) (by decide +kernel)
set_option maxRecDepth 20000 in
theorem gL_law_X6_hear : GoodIn wsL_law (wsV RL 72 RX6 yX6_hear wsX6_hear) := goodIn_app (goodIn_of _ (by decide +kernel)) ggL_law_X6_hear
set_option maxRecDepth 20000 in
theorem ggL_law_X5_forget : GoodIn wsL_law wsX5_forget := goodIn_r _ [491, 21, 475, 492, 189, 190, 42, 191, 192, 682, 683, 684, 685, 686, 687, 688, 689, 690, 727, 728, 729, 730, 735, 736, 737, 738, 739] (by decide +kernel) (by decide +kernel)
set_option maxRecDepth 20000 in
theorem gL_law_X5_forget : GoodIn wsL_law (wsV RL 73 RX5 yX5_forget wsX5_forget) := goodIn_app (goodIn_of _ (by decide +kernel)) ggL_law_X5_forget
set_option maxRecDepth 20000 in
theorem ggL_law_X6_forget : GoodIn wsL_law wsX6_forget := goodIn_r _ [496, 215, 691, 692, 693, 694, 695, 696, 697, 698, 699, 700, 701, 702, 703, 704, 705, 706, 707, 708, 709, 710, 711, 712, 713, 714, 715, 716, 717, 718, 719, 720, 721, 722, 723, 724] (by decide +kernel) (by decide +kernel)
set_option maxRecDepth 20000 in
theorem gL_law_X6_forget : GoodIn wsL_law (wsV RL 76 RX6 yX6_forget wsX6_forget) := goodIn_app (goodIn_of _ (by decide +kernel)) ggL_law_X6_forget
set_option maxRecDepth 20000 in
theorem ggL_law_X5_hours : GoodIn wsL_law wsX5_hours := goodIn_r _ [500, 355, 356, 357, 2, 358, 168, 224, 225, 226, 227, 26, 21, 169, 228, 229, 230, 25, 231, 59, 232, 233, 234, 38, 235, 187, 236, 237, 238, 239, 47, 240, 241, 242, 243, 87, 88, 244, 245, 246, 247, 48, 248, 249, 250, 251, 252, 253, 254, 255, 501, 502, 503, 504, 475, 480, 481, 482, 42, 483, 192, 505, 506, 507, 508, 54, 509, 510, 511, 512, 443, 444, 445, 446, 27, 447, 448, 449, 450, 513, 514, 515, 516, 52, 517, 518, 519, 520, 53, 268, 269, 270, 271, 272, 273, 274, 275, 260, 261, 262, 20, 263, 35, 256, 257, 258, 259, 17, 86, 276, 277, 278, 279, 280, 281, 282, 283, 284, 285, 286, 521, 522, 523, 524, 55, 682, 683, 684, 685, 686, 687, 688, 689, 690, 727, 728, 729, 730, 731, 732, 733, 734, 735, 736, 737, 738, 739] (by decide +kernel) (by decide +kernel)
set_option maxRecDepth 20000 in
theorem gL_law_X5_hours : GoodIn wsL_law (wsV RL 77 RX5 yX5_hours wsX5_hours) := goodIn_app (goodIn_of _ (by decide +kernel)) ggL_law_X5_hours
set_option maxRecDepth 20000 in
theorem ggL_law_X6_hours : GoodIn wsL_law wsX6_hours := goodIn_r _ [528, 211, 529, 530, 531, 5, 532, 533, 534, 535, 536, 215, 70, 68, 69, 71, 319, 463, 464, 465, 466, 66, 212, 67, 307, 308, 309, 310, 311, 312, 313, 314, 65, 64, 315, 316, 317, 318, 320, 321, 322, 323, 324, 325, 326, 691, 692, 693, 694, 695, 696, 697, 698, 699, 700, 701, 702, 703, 704, 705, 706, 707, 708, 709, 710, 711, 712, 713, 714, 715, 716, 717, 718, 719, 720, 721, 722, 723, 724] (by decide +kernel) (by decide +kernel)
set_option maxRecDepth 20000 in
theorem gL_law_X6_hours : GoodIn wsL_law (wsV RL 80 RX6 yX6_hours wsX6_hours) := goodIn_app (goodIn_of _ (by decide +kernel)) ggL_law_X6_hours
set_option maxRecDepth 20000 in
theorem ggL_law_X5_ask : GoodIn wsL_law wsX5_ask := goodIn_r _ [540, 21, 475, 168, 352, 353, 2, 354, 86, 87, 88, 355, 356, 357, 358, 541, 498, 499, 500, 224, 225, 226, 227, 26, 169, 228, 229, 230, 25, 231, 59, 232, 233, 234, 38, 235, 187, 236, 237, 238, 239, 47, 240, 241, 242, 243, 244, 245, 246, 247, 48, 248, 249, 250, 251, 252, 253, 254, 255, 501, 502, 503, 504, 480, 481, 482, 42, 483, 192, 505, 506, 507, 508, 54, 509, 510, 511, 512, 443, 444, 445, 446, 27, 447, 448, 449, 450, 513, 514, 515, 516, 52, 517, 518, 519, 520, 53, 268, 269, 270, 271, 272, 273, 274, 275, 260, 261, 262, 20, 263, 35, 256, 257, 258, 259, 17, 276, 277, 278, 279, 280, 281, 282, 283, 284, 285, 286, 521, 522, 523, 524, 55, 542, 543, 544, 545, 546, 547, 548, 549, 550, 682, 683, 684, 685, 686, 687, 688, 689, 690, 727, 728, 729, 730, 731, 732, 733, 734, 735, 736, 737, 738, 739] (by decide +kernel) (by decide +kernel)
set_option maxRecDepth 20000 in
theorem gL_law_X5_ask : GoodIn wsL_law (wsV RL 81 RX5 yX5_ask wsX5_ask) := goodIn_app (goodIn_of _ (by decide +kernel)) ggL_law_X5_ask
set_option maxRecDepth 20000 in
theorem ggL_law_X6_ask : GoodIn wsL_law wsX6_ask := goodIn_r _ [554, 211, 363, 364, 5, 365, 103, 104, 105, 555, 556, 557, 558, 215, 559, 529, 530, 531, 532, 533, 534, 535, 536, 70, 68, 69, 71, 319, 463, 464, 465, 466, 66, 212, 67, 307, 308, 309, 310, 311, 312, 313, 314, 65, 64, 315, 316, 317, 318, 320, 321, 322, 323, 324, 325, 326, 560, 561, 562, 563, 436, 437, 438, 691, 692, 693, 694, 695, 696, 697, 698, 699, 700, 701, 702, 703, 704, 705, 706, 707, 708, 709, 710, 711, 712, 713, 714, 715, 716, 717, 718, 719, 720, 721, 722, 723, 724] (by decide +kernel) (by decide +kernel)
set_option maxRecDepth 20000 in
theorem gL_law_X6_ask : GoodIn wsL_law (wsV RL 84 RX6 yX6_ask wsX6_ask) := goodIn_app (goodIn_of _ (by decide +kernel)) ggL_law_X6_ask
set_option maxRecDepth 20000 in
theorem ggL_law_X5_weeks : GoodIn wsL_law wsX5_weeks := goodIn_r _ [567, 27, 86, 87, 2, 88, 355, 356, 357, 358, 168, 568, 569, 570, 571, 21, 169, 572, 573, 574, 575, 228, 229, 230, 25, 231, 59, 232, 233, 234, 38, 235, 187, 244, 245, 246, 247, 48, 240, 241, 242, 243, 248, 249, 250, 251, 252, 253, 254, 255, 451, 452, 453, 454, 264, 265, 266, 267, 268, 269, 270, 271, 272, 273, 274, 275, 260, 261, 262, 20, 263, 35, 256, 257, 258, 259, 17, 276, 277, 278, 279, 280, 281, 282, 283, 284, 285, 286, 682, 683, 684, 685, 686, 687, 688, 689, 690, 727, 728, 729, 730, 731, 732, 733, 734] (by decide +kernel) (by decide +kernel)
set_option maxRecDepth 20000 in
theorem gL_law_X5_weeks : GoodIn wsL_law (wsV RL 85 RX5 yX5_weeks wsX5_weeks) := goodIn_app (goodIn_of _ (by decide +kernel)) ggL_law_X5_weeks
set_option maxRecDepth 20000 in
theorem ggL_law_X6_weeks : GoodIn wsL_law wsX6_weeks := goodIn_r _ [579, 211, 103, 104, 5, 105, 580, 581, 582, 583, 74, 66, 584, 212, 585, 586, 587, 588, 589, 590, 591, 592, 467, 468, 469, 470, 303, 304, 305, 306, 307, 308, 309, 310, 311, 312, 313, 314, 65, 64, 315, 316, 317, 318, 319, 67, 320, 321, 322, 323, 324, 325, 326, 691, 692, 693, 694, 695, 696, 697, 698, 699, 700, 701, 702, 703, 704, 705, 706, 707, 708, 709, 710, 711, 712, 713, 714, 715, 716, 717, 718, 719, 720, 721, 722, 723, 724] (by decide +kernel) (by decide +kernel)
set_option maxRecDepth 20000 in
theorem gL_law_X6_weeks : GoodIn wsL_law (wsV RL 89 RX6 yX6_weeks wsX6_weeks) := goodIn_app (goodIn_of _ (by decide +kernel)) ggL_law_X6_weeks
set_option maxRecDepth 20000 in
theorem ggL_law_X5_image : GoodIn wsL_law wsX5_image := goodIn_r _ [596, 22, 21, 170, 343, 355, 356, 357, 2, 358, 168, 597, 598, 599, 20, 600, 35, 39, 43, 182, 601, 602, 603, 38, 604, 187, 47, 48, 605, 606, 607, 42, 608, 192, 52, 53, 54, 55, 682, 683, 684, 685, 686, 687, 688, 689, 690, 727, 728, 729, 730, 732, 733, 734, 735, 736, 737, 738, 739] (by decide +kernel) (by decide +kernel)
set_option maxRecDepth 20000 in
theorem gL_law_X5_image : GoodIn wsL_law (wsV RL 90 RX5 yX5_image wsX5_image) := goodIn_app (goodIn_of _ (by decide +kernel)) ggL_law_X5_image
set_option maxRecDepth 20000 in
theorem ggL_law_X6_image : GoodIn wsL_law wsX6_image := goodIn_r _ [612, 211, 613, 213, 614, 212, 615, 214, 616, 215, 617, 75, 65, 76, 66, 77, 67, 78, 68, 79, 69, 80, 70, 81, 71, 691, 692, 693, 694, 695, 696, 697, 698, 699, 700, 701, 702, 703, 704, 705, 706, 707, 708, 709, 710, 711, 712, 713, 714, 715, 716, 717, 718, 719, 720, 721, 722, 723, 724] (by decide +kernel) (by decide +kernel)
set_option maxRecDepth 20000 in
theorem gL_law_X6_image : GoodIn wsL_law (wsV RL 93 RX6 yX6_image wsX6_image) := goodIn_app (goodIn_of _ (by decide +kernel)) ggL_law_X6_image
set_option maxRecDepth 20000 in
theorem ggL_law_X5_restore : GoodIn wsL_law wsX5_restore := goodIn_r _ [621, 170, 21, 22, 343, 597, 598, 599, 20, 600, 35, 39, 43, 182, 601, 602, 603, 38, 604, 187, 47, 48, 605, 606, 607, 42, 608, 192, 52, 53, 54, 55, 682, 683, 684, 685, 686, 687, 688, 689, 690, 727, 728, 729, 730, 732, 733, 734, 735, 736, 737, 738, 739] (by decide +kernel) (by decide +kernel)
set_option maxRecDepth 20000 in
theorem gL_law_X5_restore : GoodIn wsL_law (wsV RL 94 RX5 yX5_restore wsX5_restore) := goodIn_app (goodIn_of _ (by decide +kernel)) ggL_law_X5_restore
set_option maxRecDepth 20000 in
theorem ggL_law_X6_restore : GoodIn wsL_law wsX6_restore := goodIn_r _ [625, 613, 614, 213, 615, 212, 616, 214, 617, 215, 65, 75, 66, 76, 67, 77, 68, 78, 69, 79, 70, 80, 71, 81, 691, 692, 693, 694, 695, 696, 697, 698, 699, 700, 701, 702, 703, 704, 705, 706, 707, 708, 709, 710, 711, 712, 713, 714, 715, 716, 717, 718, 719, 720, 721, 722, 723, 724] (by decide +kernel) (by decide +kernel)
set_option maxRecDepth 20000 in
theorem gL_law_X6_restore : GoodIn wsL_law (wsV RL 97 RX6 yX6_restore wsX6_restore) := goodIn_app (goodIn_of _ (by decide +kernel)) ggL_law_X6_restore
set_option maxRecDepth 20000 in
theorem ggL_law_X5_count : GoodIn wsL_law wsX5_count := goodIn_r _ [629, 168, 21, 169, 343, 475, 15, 171, 232, 233, 234, 38, 235, 187, 224, 225, 226, 2, 227, 26, 228, 229, 230, 25, 231, 59, 236, 237, 238, 239, 47, 240, 241, 242, 243, 87, 88, 244, 245, 246, 247, 48, 248, 249, 250, 251, 252, 253, 254, 255, 630, 631, 632, 633, 634, 277, 278, 279, 280, 274, 275, 451, 452, 453, 454, 264, 265, 266, 267, 268, 269, 270, 271, 272, 273, 260, 261, 262, 20, 263, 35, 256, 257, 258, 259, 17, 86, 276, 281, 282, 283, 284, 285, 286, 480, 481, 482, 42, 483, 192, 94, 95, 96, 14, 97, 93, 682, 683, 684, 685, 686, 687, 688, 689, 690, 727, 728, 729, 730, 732, 733, 734, 731, 735, 736, 737, 738, 739, 725, 726] (by decide +kernel) (by decide +kernel)
set_option maxRecDepth 20000 in
theorem gL_law_X5_count : GoodIn wsL_law (wsV RL 98 RX5 yX5_count wsX5_count) := goodIn_app (goodIn_of _ (by decide +kernel)) ggL_law_X5_count
set_option maxRecDepth 20000 in
theorem ggL_law_X6_count : GoodIn wsL_law wsX6_count := goodIn_r _ [638, 639, 640, 641, 5, 642, 211, 212, 214, 215, 102, 213, 643, 644, 645, 646, 315, 316, 317, 318, 319, 66, 67, 467, 468, 469, 470, 303, 304, 305, 306, 307, 308, 309, 310, 311, 312, 313, 314, 65, 64, 320, 321, 322, 323, 324, 325, 326, 691, 692, 693, 694, 695, 696, 697, 698, 699, 700, 701, 702, 703, 704, 705, 706, 707, 708, 709, 710, 711, 712, 713, 714, 715, 716, 717, 718, 719, 720, 721, 722, 723, 724] (by decide +kernel) (by decide +kernel)
set_option maxRecDepth 20000 in
theorem gL_law_X6_count : GoodIn wsL_law (wsV RL 101 RX6 yX6_count wsX6_count) := goodIn_app (goodIn_of _ (by decide +kernel)) ggL_law_X6_count
set_option maxRecDepth 20000 in
theorem ggL_law_X5_digest : GoodIn wsL_law wsX5_digest := goodIn_r _ [650, 651, 15, 652, 653, 654, 2, 655, 168, 656, 217, 218, 219, 21, 220, 221, 222, 223, 86, 87, 88, 224, 225, 226, 227, 26, 169, 228, 229, 230, 25, 231, 59, 232, 233, 234, 38, 235, 187, 236, 237, 238, 239, 47, 240, 241, 242, 243, 244, 245, 246, 247, 48, 248, 249, 250, 251, 252, 253, 254, 255, 256, 257, 258, 259, 17, 260, 261, 262, 20, 263, 35, 264, 265, 266, 267, 268, 269, 270, 271, 272, 273, 274, 275, 276, 277, 278, 279, 280, 281, 282, 283, 284, 285, 286, 287, 288, 289, 290, 657, 658, 659, 660, 661, 662, 663, 664, 665, 395, 396, 397, 381, 398, 399, 400, 401, 402, 403, 355, 356, 357, 358, 666, 349, 350, 351, 352, 353, 354, 416, 417, 418, 419, 667, 413, 414, 415, 420, 421, 422, 423, 668, 440, 441, 442, 370, 371, 372, 443, 444, 445, 446, 27, 447, 448, 449, 450, 451, 452, 453, 454, 541, 498, 499, 500, 501, 502, 503, 504, 475, 480, 481, 482, 42, 483, 192, 505, 506, 507, 508, 54, 509, 510, 511, 512, 513, 514, 515, 516, 52, 517, 518, 519, 520, 53, 521, 522, 523, 524, 55, 669, 538, 539, 540, 542, 543, 544, 545, 546, 547, 548, 549, 550, 94, 95, 96, 14, 97, 93, 193, 131, 132, 133, 31, 670, 627, 628, 629, 343, 171, 630, 631, 632, 633, 634, 682, 683, 684, 685, 686, 687, 688, 689, 690, 727, 728, 729, 730, 731, 732, 733, 734, 735, 736, 737, 738, 739, 725, 726] (by decide +kernel) (by decide +kernel)
set_option maxRecDepth 20000 in
theorem gL_law_X5_digest : GoodIn wsL_law (wsV RL 102 RX5 yX5_digest wsX5_digest) := goodIn_app (goodIn_of _ (by decide +kernel)) ggL_law_X5_digest
set_option maxRecDepth 20000 in
theorem ggL_law_X6_digest : GoodIn wsL_law wsX6_digest := goodIn_r _ [674, 675, 676, 211, 212, 102, 73, 299, 300, 301, 5, 302, 64, 65, 303, 304, 305, 306, 307, 308, 309, 310, 311, 312, 313, 314, 315, 316, 317, 318, 319, 66, 67, 320, 321, 322, 323, 324, 325, 326, 327, 328, 329, 330, 677, 678, 679, 680, 681, 408, 409, 410, 411, 363, 364, 365, 103, 104, 105, 428, 429, 430, 431, 432, 433, 434, 435, 436, 437, 438, 459, 460, 461, 462, 463, 464, 465, 466, 467, 468, 469, 470, 529, 530, 531, 532, 533, 534, 535, 536, 215, 70, 68, 69, 71, 555, 556, 557, 558, 559, 560, 561, 562, 563, 639, 640, 641, 642, 214, 213, 643, 644, 645, 646, 691, 692, 693, 694, 695, 696, 697, 698, 699, 700, 701, 702, 703, 704, 705, 706, 707, 708, 709, 710, 711, 712, 713, 714, 715, 716, 717, 718, 719, 720, 721, 722, 723, 724] (by decide +kernel) (by decide +kernel)
set_option maxRecDepth 20000 in
theorem gL_law_X6_digest : GoodIn wsL_law (wsV RL 106 RX6 yX6_digest wsX6_digest) := goodIn_app (goodIn_of _ (by decide +kernel)) ggL_law_X6_digest
theorem dL_law_0 : decode cL_law 0 = .ok (.new 7, 3) := by decide +kernel
theorem dL_law_3 : decode cL_law 3 = .ok (.dup, 1) := by decide +kernel
theorem dL_law_4 : decode cL_law 4 = .ok (.invokespecial 9, 3) := by decide +kernel
theorem dL_law_7 : decode cL_law 7 = .ok (.astore_n 1, 1) := by decide +kernel
theorem dL_law_8 : decode cL_law 8 = .ok (.new 10, 3) := by decide +kernel
theorem dL_law_11 : decode cL_law 11 = .ok (.dup, 1) := by decide +kernel
theorem dL_law_12 : decode cL_law 12 = .ok (.invokespecial 12, 3) := by decide +kernel
theorem dL_law_15 : decode cL_law 15 = .ok (.astore_n 2, 1) := by decide +kernel
theorem dL_law_16 : decode cL_law 16 = .ok (.iconst 0, 1) := by decide +kernel
theorem dL_law_17 : decode cL_law 17 = .ok (.istore_n 3, 1) := by decide +kernel
theorem dL_law_18 : decode cL_law 18 = .ok (.iload_n 3, 1) := by decide +kernel
theorem dL_law_19 : decode cL_law 19 = .ok (.aload_n 0, 1) := by decide +kernel
theorem dL_law_20 : decode cL_law 20 = .ok (.arraylength, 1) := by decide +kernel
theorem dL_law_21 : decode cL_law 21 = .ok (.iconst 5, 1) := by decide +kernel
theorem dL_law_22 : decode cL_law 22 = .ok (.isub, 1) := by decide +kernel
theorem dL_law_23 : decode cL_law 23 = .ok (.if_icmp .gt 676, 3) := by decide +kernel
theorem dL_law_26 : decode cL_law 26 = .ok (.aload_n 0, 1) := by decide +kernel
theorem dL_law_27 : decode cL_law 27 = .ok (.iload_n 3, 1) := by decide +kernel
theorem dL_law_28 : decode cL_law 28 = .ok (.iaload, 1) := by decide +kernel
theorem dL_law_29 : decode cL_law 29 = .ok (.bipush 31, 2) := by decide +kernel
theorem dL_law_31 : decode cL_law 31 = .ok (.iand, 1) := by decide +kernel
theorem dL_law_32 : decode cL_law 32 = .ok (.tableswitch 661 0 21 #[104, 127, 140, 153, 166, 199, 232, 265, 288, 321, 354, 387, 420, 453, 506, 519, 532, 555, 598, 611, 624, 647], 104) := by decide +kernel
theorem dL_law_136 : decode cL_law 136 = .ok (.aload_n 1, 1) := by decide +kernel
theorem dL_law_137 : decode cL_law 137 = .ok (.aload_n 0, 1) := by decide +kernel
theorem dL_law_138 : decode cL_law 138 = .ok (.iload_n 3, 1) := by decide +kernel
theorem dL_law_139 : decode cL_law 139 = .ok (.iconst 1, 1) := by decide +kernel
theorem dL_law_140 : decode cL_law 140 = .ok (.iadd, 1) := by decide +kernel
theorem dL_law_141 : decode cL_law 141 = .ok (.iaload, 1) := by decide +kernel
theorem dL_law_142 : decode cL_law 142 = .ok (.invokevirtual 13, 3) := by decide +kernel
theorem dL_law_145 : decode cL_law 145 = .ok (.aload_n 2, 1) := by decide +kernel
theorem dL_law_146 : decode cL_law 146 = .ok (.aload_n 0, 1) := by decide +kernel
theorem dL_law_147 : decode cL_law 147 = .ok (.iload_n 3, 1) := by decide +kernel
theorem dL_law_148 : decode cL_law 148 = .ok (.iconst 1, 1) := by decide +kernel
theorem dL_law_149 : decode cL_law 149 = .ok (.iadd, 1) := by decide +kernel
theorem dL_law_150 : decode cL_law 150 = .ok (.iaload, 1) := by decide +kernel
theorem dL_law_151 : decode cL_law 151 = .ok (.invokevirtual 17, 3) := by decide +kernel
theorem dL_law_154 : decode cL_law 154 = .ok (.if_icmp .eq 539, 3) := by decide +kernel
theorem dL_law_157 : decode cL_law 157 = .ok (.iconst 0, 1) := by decide +kernel
theorem dL_law_158 : decode cL_law 158 = .ok (.ireturn, 1) := by decide +kernel
theorem dL_law_159 : decode cL_law 159 = .ok (.aload_n 1, 1) := by decide +kernel
