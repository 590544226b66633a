theorem dX3_goneAt_18 : decode cX3_goneAt 18 = .ok (.iload_n 2, 1) := by decide +kernel
theorem dX3_goneAt_19 : decode cX3_goneAt 19 = .ok (.bipush 12, 2) := by decide +kernel
theorem dX3_goneAt_21 : decode cX3_goneAt 21 = .ok (.if_icmp .ge 7, 3) := by decide +kernel
theorem dX3_goneAt_24 : decode cX3_goneAt 24 = .ok (.iload_n 2, 1) := by decide +kernel
theorem dX3_goneAt_25 : decode cX3_goneAt 25 = .ok (.goto 4, 3) := by decide +kernel
theorem dX3_goneAt_28 : decode cX3_goneAt 28 = .ok (.iconst (-1), 1) := by decide +kernel
theorem dX3_goneAt_29 : decode cX3_goneAt 29 = .ok (.ireturn, 1) := by decide +kernel
theorem dX3_copyFrom_0 : decode cX3_copyFrom 0 = .ok (.aload_n 0, 1) := by decide +kernel
theorem dX3_copyFrom_1 : decode cX3_copyFrom 1 = .ok (.aload_n 1, 1) := by decide +kernel
theorem dX3_copyFrom_2 : decode cX3_copyFrom 2 = .ok (.getfield 18, 3) := by decide +kernel
theorem dX3_copyFrom_5 : decode cX3_copyFrom 5 = .ok (.putfield 18, 3) := by decide +kernel
theorem dX3_copyFrom_8 : decode cX3_copyFrom 8 = .ok (.iconst 0, 1) := by decide +kernel
theorem dX3_copyFrom_9 : decode cX3_copyFrom 9 = .ok (.istore_n 2, 1) := by decide +kernel
theorem dX3_copyFrom_10 : decode cX3_copyFrom 10 = .ok (.iload_n 2, 1) := by decide +kernel
theorem dX3_copyFrom_11 : decode cX3_copyFrom 11 = .ok (.bipush 6, 2) := by decide +kernel
theorem dX3_copyFrom_13 : decode cX3_copyFrom 13 = .ok (.if_icmp .ge 33, 3) := by decide +kernel
theorem dX3_copyFrom_16 : decode cX3_copyFrom 16 = .ok (.aload_n 0, 1) := by decide +kernel
theorem dX3_copyFrom_17 : decode cX3_copyFrom 17 = .ok (.getfield 9, 3) := by decide +kernel
theorem dX3_copyFrom_20 : decode cX3_copyFrom 20 = .ok (.iload_n 2, 1) := by decide +kernel
theorem dX3_copyFrom_21 : decode cX3_copyFrom 21 = .ok (.aload_n 1, 1) := by decide +kernel
theorem dX3_copyFrom_22 : decode cX3_copyFrom 22 = .ok (.getfield 9, 3) := by decide +kernel
theorem dX3_copyFrom_25 : decode cX3_copyFrom 25 = .ok (.iload_n 2, 1) := by decide +kernel
theorem dX3_copyFrom_26 : decode cX3_copyFrom 26 = .ok (.iaload, 1) := by decide +kernel
theorem dX3_copyFrom_27 : decode cX3_copyFrom 27 = .ok (.iastore, 1) := by decide +kernel
theorem dX3_copyFrom_28 : decode cX3_copyFrom 28 = .ok (.aload_n 0, 1) := by decide +kernel
theorem dX3_copyFrom_29 : decode cX3_copyFrom 29 = .ok (.getfield 15, 3) := by decide +kernel
theorem dX3_copyFrom_32 : decode cX3_copyFrom 32 = .ok (.iload_n 2, 1) := by decide +kernel
theorem dX3_copyFrom_33 : decode cX3_copyFrom 33 = .ok (.aload_n 1, 1) := by decide +kernel
theorem dX3_copyFrom_34 : decode cX3_copyFrom 34 = .ok (.getfield 15, 3) := by decide +kernel
theorem dX3_copyFrom_37 : decode cX3_copyFrom 37 = .ok (.iload_n 2, 1) := by decide +kernel
theorem dX3_copyFrom_38 : decode cX3_copyFrom 38 = .ok (.iaload, 1) := by decide +kernel
theorem dX3_copyFrom_39 : decode cX3_copyFrom 39 = .ok (.iastore, 1) := by decide +kernel
theorem dX3_copyFrom_40 : decode cX3_copyFrom 40 = .ok (.iinc 2 1, 3) := by decide +kernel
theorem dX3_copyFrom_43 : decode cX3_copyFrom 43 = .ok (.goto (-33), 3) := by decide +kernel
theorem dX3_copyFrom_46 : decode cX3_copyFrom 46 = .ok (.return_, 1) := by decide +kernel
theorem dX4_init_0 : decode cX4_init 0 = .ok (.aload_n 0, 1) := by decide +kernel
theorem dX4_init_1 : decode cX4_init 1 = .ok (.invokespecial 3, 3) := by decide +kernel
theorem dX4_init_4 : decode cX4_init 4 = .ok (.aload_n 0, 1) := by decide +kernel
theorem dX4_init_5 : decode cX4_init 5 = .ok (.bipush 12, 2) := by decide +kernel
theorem dX4_init_7 : decode cX4_init 7 = .ok (.newarray .int, 2) := by decide +kernel
theorem dX4_init_9 : decode cX4_init 9 = .ok (.putfield 9, 3) := by decide +kernel
theorem dX4_init_12 : decode cX4_init 12 = .ok (.return_, 1) := by decide +kernel
theorem dX4_clear_0 : decode cX4_clear 0 = .ok (.iconst 0, 1) := by decide +kernel
theorem dX4_clear_1 : decode cX4_clear 1 = .ok (.istore_n 1, 1) := by decide +kernel
theorem dX4_clear_2 : decode cX4_clear 2 = .ok (.iload_n 1, 1) := by decide +kernel
theorem dX4_clear_3 : decode cX4_clear 3 = .ok (.bipush 12, 2) := by decide +kernel
theorem dX4_clear_5 : decode cX4_clear 5 = .ok (.if_icmp .ge 16, 3) := by decide +kernel
theorem dX4_clear_8 : decode cX4_clear 8 = .ok (.aload_n 0, 1) := by decide +kernel
theorem dX4_clear_9 : decode cX4_clear 9 = .ok (.getfield 9, 3) := by decide +kernel
theorem dX4_clear_12 : decode cX4_clear 12 = .ok (.iload_n 1, 1) := by decide +kernel
theorem dX4_clear_13 : decode cX4_clear 13 = .ok (.iconst 0, 1) := by decide +kernel
theorem dX4_clear_14 : decode cX4_clear 14 = .ok (.iastore, 1) := by decide +kernel
theorem dX4_clear_15 : decode cX4_clear 15 = .ok (.iinc 1 1, 3) := by decide +kernel
theorem dX4_clear_18 : decode cX4_clear 18 = .ok (.goto (-16), 3) := by decide +kernel
theorem dX4_clear_21 : decode cX4_clear 21 = .ok (.return_, 1) := by decide +kernel
theorem dX4_add_0 : decode cX4_add 0 = .ok (.iload_n 2, 1) := by decide +kernel
theorem dX4_add_1 : decode cX4_add 1 = .ok (.istore_n 3, 1) := by decide +kernel
theorem dX4_add_2 : decode cX4_add 2 = .ok (.iconst 0, 1) := by decide +kernel
theorem dX4_add_3 : decode cX4_add 3 = .ok (.iload_n 1, 1) := by decide +kernel
theorem dX4_add_4 : decode cX4_add 4 = .ok (.invokestatic 15, 3) := by decide +kernel
theorem dX4_add_7 : decode cX4_add 7 = .ok (.istore 4, 2) := by decide +kernel
theorem dX4_add_9 : decode cX4_add 9 = .ok (.iload 4, 2) := by decide +kernel
theorem dX4_add_11 : decode cX4_add 11 = .ok (.bipush 12, 2) := by decide +kernel
theorem dX4_add_13 : decode cX4_add 13 = .ok (.if_icmp .ge 27, 3) := by decide +kernel
theorem dX4_add_16 : decode cX4_add 16 = .ok (.iload_n 3, 1) := by decide +kernel
theorem dX4_add_17 : decode cX4_add 17 = .ok (.ifCond .le 23, 3) := by decide +kernel
theorem dX4_add_20 : decode cX4_add 20 = .ok (.aload_n 0, 1) := by decide +kernel
theorem dX4_add_21 : decode cX4_add 21 = .ok (.getfield 9, 3) := by decide +kernel
theorem dX4_add_24 : decode cX4_add 24 = .ok (.iload 4, 2) := by decide +kernel
theorem dX4_add_26 : decode cX4_add 26 = .ok (.dup2, 1) := by decide +kernel
theorem dX4_add_27 : decode cX4_add 27 = .ok (.iaload, 1) := by decide +kernel
theorem dX4_add_28 : decode cX4_add 28 = .ok (.iload_n 3, 1) := by decide +kernel
theorem dX4_add_29 : decode cX4_add 29 = .ok (.iadd, 1) := by decide +kernel
theorem dX4_add_30 : decode cX4_add 30 = .ok (.iastore, 1) := by decide +kernel
theorem dX4_add_31 : decode cX4_add 31 = .ok (.iinc 3 (-2), 3) := by decide +kernel
theorem dX4_add_34 : decode cX4_add 34 = .ok (.iinc 4 1, 3) := by decide +kernel
theorem dX4_add_37 : decode cX4_add 37 = .ok (.goto (-28), 3) := by decide +kernel
theorem dX4_add_40 : decode cX4_add 40 = .ok (.return_, 1) := by decide +kernel
theorem dX4_copyFrom_0 : decode cX4_copyFrom 0 = .ok (.iconst 0, 1) := by decide +kernel
theorem dX4_copyFrom_1 : decode cX4_copyFrom 1 = .ok (.istore_n 2, 1) := by decide +kernel
theorem dX4_copyFrom_2 : decode cX4_copyFrom 2 = .ok (.iload_n 2, 1) := by decide +kernel
theorem dX4_copyFrom_3 : decode cX4_copyFrom 3 = .ok (.bipush 12, 2) := by decide +kernel
theorem dX4_copyFrom_5 : decode cX4_copyFrom 5 = .ok (.if_icmp .ge 21, 3) := by decide +kernel
theorem dX4_copyFrom_8 : decode cX4_copyFrom 8 = .ok (.aload_n 0, 1) := by decide +kernel
theorem dX4_copyFrom_9 : decode cX4_copyFrom 9 = .ok (.getfield 9, 3) := by decide +kernel
theorem dX4_copyFrom_12 : decode cX4_copyFrom 12 = .ok (.iload_n 2, 1) := by decide +kernel
theorem dX4_copyFrom_13 : decode cX4_copyFrom 13 = .ok (.aload_n 1, 1) := by decide +kernel
theorem dX4_copyFrom_14 : decode cX4_copyFrom 14 = .ok (.getfield 9, 3) := by decide +kernel
theorem dX4_copyFrom_17 : decode cX4_copyFrom 17 = .ok (.iload_n 2, 1) := by decide +kernel
theorem dX4_copyFrom_18 : decode cX4_copyFrom 18 = .ok (.iaload, 1) := by decide +kernel
theorem dX4_copyFrom_19 : decode cX4_copyFrom 19 = .ok (.iastore, 1) := by decide +kernel
theorem dX4_copyFrom_20 : decode cX4_copyFrom 20 = .ok (.iinc 2 1, 3) := by decide +kernel
theorem dX4_copyFrom_23 : decode cX4_copyFrom 23 = .ok (.goto (-21), 3) := by decide +kernel
theorem dX4_copyFrom_26 : decode cX4_copyFrom 26 = .ok (.return_, 1) := by decide +kernel
theorem dX4_at_0 : decode cX4_at 0 = .ok (.iload_n 1, 1) := by decide +kernel
theorem dX4_at_1 : decode cX4_at 1 = .ok (.ifCond .lt 9, 3) := by decide +kernel
theorem dX4_at_4 : decode cX4_at 4 = .ok (.iload_n 1, 1) := by decide +kernel
theorem dX4_at_5 : decode cX4_at 5 = .ok (.bipush 12, 2) := by decide +kernel
theorem dX4_at_7 : decode cX4_at 7 = .ok (.if_icmp .lt 5, 3) := by decide +kernel
theorem dX4_at_10 : decode cX4_at 10 = .ok (.iconst 0, 1) := by decide +kernel
theorem dX4_at_11 : decode cX4_at 11 = .ok (.ireturn, 1) := by decide +kernel
theorem dX4_at_12 : decode cX4_at 12 = .ok (.bipush 20, 2) := by decide +kernel
theorem dX4_at_14 : decode cX4_at 14 = .ok (.aload_n 0, 1) := by decide +kernel
theorem dX4_at_15 : decode cX4_at 15 = .ok (.getfield 9, 3) := by decide +kernel
theorem dX4_at_18 : decode cX4_at 18 = .ok (.iload_n 1, 1) := by decide +kernel
theorem dX4_at_19 : decode cX4_at 19 = .ok (.iaload, 1) := by decide +kernel
theorem dX4_at_20 : decode cX4_at 20 = .ok (.invokestatic 21, 3) := by decide +kernel
theorem dX4_at_23 : decode cX4_at 23 = .ok (.ireturn, 1) := by decide +kernel
set_option maxRecDepth 20000 in
theorem ggX4_greatest_X4_at : GoodIn wsX4_greatest wsX4_at := goodIn_r _ [9, 10, 11, 12, 3, 13, 14] (by decide +kernel) (by decide +kernel)
set_option maxRecDepth 20000 in
theorem gX4_greatest_X4_at : GoodIn wsX4_greatest (wsV RX4 24 RX4 yX4_at wsX4_at) := goodIn_app (goodIn_of _ (by decide +kernel)) ggX4_greatest_X4_at
theorem dX4_greatest_0 : decode cX4_greatest 0 = .ok (.iconst 0, 1) := by decide +kernel
theorem dX4_greatest_1 : decode cX4_greatest 1 = .ok (.istore_n 1, 1) := by decide +kernel
theorem dX4_greatest_2 : decode cX4_greatest 2 = .ok (.iconst 0, 1) := by decide +kernel
theorem dX4_greatest_3 : decode cX4_greatest 3 = .ok (.istore_n 2, 1) := by decide +kernel
theorem dX4_greatest_4 : decode cX4_greatest 4 = .ok (.iload_n 2, 1) := by decide +kernel
theorem dX4_greatest_5 : decode cX4_greatest 5 = .ok (.bipush 12, 2) := by decide +kernel
theorem dX4_greatest_7 : decode cX4_greatest 7 = .ok (.if_icmp .ge 19, 3) := by decide +kernel
theorem dX4_greatest_10 : decode cX4_greatest 10 = .ok (.iload_n 1, 1) := by decide +kernel
theorem dX4_greatest_11 : decode cX4_greatest 11 = .ok (.aload_n 0, 1) := by decide +kernel
theorem dX4_greatest_12 : decode cX4_greatest 12 = .ok (.iload_n 2, 1) := by decide +kernel
theorem dX4_greatest_13 : decode cX4_greatest 13 = .ok (.invokevirtual 24, 3) := by decide +kernel
theorem dX4_greatest_16 : decode cX4_greatest 16 = .ok (.invokestatic 15, 3) := by decide +kernel
theorem dX4_greatest_19 : decode cX4_greatest 19 = .ok (.istore_n 1, 1) := by decide +kernel
theorem dX4_greatest_20 : decode cX4_greatest 20 = .ok (.iinc 2 1, 3) := by decide +kernel
theorem dX4_greatest_23 : decode cX4_greatest 23 = .ok (.goto (-19), 3) := by decide +kernel
theorem dX4_greatest_26 : decode cX4_greatest 26 = .ok (.iload_n 1, 1) := by decide +kernel
theorem dX4_greatest_27 : decode cX4_greatest 27 = .ok (.ireturn, 1) := by decide +kernel
set_option maxRecDepth 20000 in
theorem ggX5_init_X2_init : GoodIn wsX5_init wsX2_init := goodIn_r _ [21, 22, 2, 3, 8, 23, 52, 53] (by decide +kernel) (by decide +kernel)
set_option maxRecDepth 20000 in
theorem gX5_init_X2_init_n9 : GoodIn wsX5_init (wsX2_init) := ggX5_init_X2_init
set_option maxRecDepth 20000 in
theorem ggX5_init_X0_init : GoodIn wsX5_init wsX0_init := goodIn_r _ [25, 26, 2, 3, 8, 27, 28, 29, 30, 31, 32, 33, 34, 35, 36, 37, 38, 39, 40, 41, 42, 43, 44, 45, 46, 47, 63, 64, 65, 66, 68, 69, 70, 71, 72, 73, 74, 75] (by decide +kernel) (by decide +kernel)
set_option maxRecDepth 20000 in
theorem gX5_init_X0_init_n22 : GoodIn wsX5_init (wsX0_init) := ggX5_init_X0_init
set_option maxRecDepth 20000 in
theorem ggX5_init_X4_init : GoodIn wsX5_init wsX4_init := goodIn_r _ [49, 50, 2, 3, 8, 51, 67] (by decide +kernel) (by decide +kernel)
set_option maxRecDepth 20000 in
theorem gX5_init_X4_init_n32 : GoodIn wsX5_init (wsX4_init) := ggX5_init_X4_init
theorem dX5_init_0 : decode cX5_init 0 = .ok (.aload_n 0, 1) := by decide +kernel
theorem dX5_init_1 : decode cX5_init 1 = .ok (.invokespecial 1, 3) := by decide +kernel
theorem dX5_init_4 : decode cX5_init 4 = .ok (.aload_n 0, 1) := by decide +kernel
theorem dX5_init_5 : decode cX5_init 5 = .ok (.new 7, 3) := by decide +kernel
theorem dX5_init_8 : decode cX5_init 8 = .ok (.dup, 1) := by decide +kernel
theorem dX5_init_9 : decode cX5_init 9 = .ok (.invokespecial 9, 3) := by decide +kernel
theorem dX5_init_12 : decode cX5_init 12 = .ok (.putfield 10, 3) := by decide +kernel
theorem dX5_init_15 : decode cX5_init 15 = .ok (.aload_n 0, 1) := by decide +kernel
theorem dX5_init_16 : decode cX5_init 16 = .ok (.iconst 5, 1) := by decide +kernel
theorem dX5_init_17 : decode cX5_init 17 = .ok (.newarray .int, 2) := by decide +kernel
theorem dX5_init_19 : decode cX5_init 19 = .ok (.putfield 16, 3) := by decide +kernel
theorem dX5_init_22 : decode cX5_init 22 = .ok (.aload_n 0, 1) := by decide +kernel
theorem dX5_init_23 : decode cX5_init 23 = .ok (.new 20, 3) := by decide +kernel
theorem dX5_init_26 : decode cX5_init 26 = .ok (.dup, 1) := by decide +kernel
theorem dX5_init_27 : decode cX5_init 27 = .ok (.invokespecial 22, 3) := by decide +kernel
theorem dX5_init_30 : decode cX5_init 30 = .ok (.putfield 23, 3) := by decide +kernel
theorem dX5_init_33 : decode cX5_init 33 = .ok (.aload_n 0, 1) := by decide +kernel
theorem dX5_init_34 : decode cX5_init 34 = .ok (.new 20, 3) := by decide +kernel
theorem dX5_init_37 : decode cX5_init 37 = .ok (.dup, 1) := by decide +kernel
theorem dX5_init_38 : decode cX5_init 38 = .ok (.invokespecial 22, 3) := by decide +kernel
theorem dX5_init_41 : decode cX5_init 41 = .ok (.putfield 27, 3) := by decide +kernel
theorem dX5_init_44 : decode cX5_init 44 = .ok (.aload_n 0, 1) := by decide +kernel
theorem dX5_init_45 : decode cX5_init 45 = .ok (.new 30, 3) := by decide +kernel
theorem dX5_init_48 : decode cX5_init 48 = .ok (.dup, 1) := by decide +kernel
theorem dX5_init_49 : decode cX5_init 49 = .ok (.invokespecial 32, 3) := by decide +kernel
theorem dX5_init_52 : decode cX5_init 52 = .ok (.putfield 33, 3) := by decide +kernel
theorem dX5_init_55 : decode cX5_init 55 = .ok (.aload_n 0, 1) := by decide +kernel
theorem dX5_init_56 : decode cX5_init 56 = .ok (.new 30, 3) := by decide +kernel
theorem dX5_init_59 : decode cX5_init 59 = .ok (.dup, 1) := by decide +kernel
theorem dX5_init_60 : decode cX5_init 60 = .ok (.invokespecial 32, 3) := by decide +kernel
theorem dX5_init_63 : decode cX5_init 63 = .ok (.putfield 37, 3) := by decide +kernel
theorem dX5_init_66 : decode cX5_init 66 = .ok (.return_, 1) := by decide +kernel
set_option maxRecDepth 20000 in
theorem ggX5_letter_X5_isWithin : GoodIn wsX5_letter wsX5_isWithin := goodIn_r _ [5] (by decide +kernel) (by decide +kernel)
set_option maxRecDepth 20000 in
theorem gX5_letter_X5_isWithin : GoodIn wsX5_letter (va_wsS RX5 40 yX5_isWithin wsX5_isWithin) := goodIn_app (goodIn_of _ (by decide +kernel)) ggX5_letter_X5_isWithin
set_option maxRecDepth 20000 in
theorem ggX5_letter_X2_write : GoodIn wsX5_letter wsX2_write := goodIn_r _ [10, 11, 12, 26, 27] (by decide +kernel) (by decide +kernel)
set_option maxRecDepth 20000 in
theorem gX5_letter_X2_write : GoodIn wsX5_letter (wsV RX5 44 RX2 yX2_write wsX2_write) := goodIn_app (goodIn_of _ (by decide +kernel)) ggX5_letter_X2_write
set_option maxRecDepth 20000 in
theorem ggX5_letter_X2_size : GoodIn wsX5_letter wsX2_size := goodIn_r _ [16, 11, 26, 27] (by decide +kernel) (by decide +kernel)
set_option maxRecDepth 20000 in
theorem gX5_letter_X2_size : GoodIn wsX5_letter (wsV RX5 48 RX2 yX2_size wsX2_size) := goodIn_app (goodIn_of _ (by decide +kernel)) ggX5_letter_X2_size
theorem dX5_letter_0 : decode cX5_letter 0 = .ok (.iload_n 1, 1) := by decide +kernel
theorem dX5_letter_1 : decode cX5_letter 1 = .ok (.bipush 32, 2) := by decide +kernel
theorem dX5_letter_3 : decode cX5_letter 3 = .ok (.bipush 126, 2) := by decide +kernel
theorem dX5_letter_5 : decode cX5_letter 5 = .ok (.invokestatic 40, 3) := by decide +kernel
theorem dX5_letter_8 : decode cX5_letter 8 = .ok (.ifCond .ne 6, 3) := by decide +kernel
theorem dX5_letter_11 : decode cX5_letter 11 = .ok (.bipush (-102), 2) := by decide +kernel
theorem dX5_letter_13 : decode cX5_letter 13 = .ok (.ireturn, 1) := by decide +kernel
theorem dX5_letter_14 : decode cX5_letter 14 = .ok (.aload_n 0, 1) := by decide +kernel
theorem dX5_letter_15 : decode cX5_letter 15 = .ok (.getfield 10, 3) := by decide +kernel
theorem dX5_letter_18 : decode cX5_letter 18 = .ok (.iload_n 1, 1) := by decide +kernel
theorem dX5_letter_19 : decode cX5_letter 19 = .ok (.invokevirtual 44, 3) := by decide +kernel
theorem dX5_letter_22 : decode cX5_letter 22 = .ok (.ifCond .eq 13, 3) := by decide +kernel
theorem dX5_letter_25 : decode cX5_letter 25 = .ok (.aload_n 0, 1) := by decide +kernel
theorem dX5_letter_26 : decode cX5_letter 26 = .ok (.getfield 10, 3) := by decide +kernel
theorem dX5_letter_29 : decode cX5_letter 29 = .ok (.invokevirtual 48, 3) := by decide +kernel
theorem dX5_letter_32 : decode cX5_letter 32 = .ok (.goto 5, 3) := by decide +kernel
theorem dX5_letter_35 : decode cX5_letter 35 = .ok (.bipush (-104), 2) := by decide +kernel
theorem dX5_letter_37 : decode cX5_letter 37 = .ok (.ireturn, 1) := by decide +kernel
set_option maxRecDepth 20000 in
theorem ggX5_blank_X2_wipe : GoodIn wsX5_blank wsX2_wipe := goodIn_r _ [6, 7, 17, 18] (by decide +kernel) (by decide +kernel)
set_option maxRecDepth 20000 in
theorem gX5_blank_X2_wipe : GoodIn wsX5_blank (wsV RX5 52 RX2 yX2_wipe wsX2_wipe) := goodIn_app (goodIn_of _ (by decide +kernel)) ggX5_blank_X2_wipe
theorem dX5_blank_0 : decode cX5_blank 0 = .ok (.aload_n 0, 1) := by decide +kernel
theorem dX5_blank_1 : decode cX5_blank 1 = .ok (.getfield 10, 3) := by decide +kernel
theorem dX5_blank_4 : decode cX5_blank 4 = .ok (.invokevirtual 52, 3) := by decide +kernel
theorem dX5_blank_7 : decode cX5_blank 7 = .ok (.ireturn, 1) := by decide +kernel
set_option maxRecDepth 20000 in
theorem ggX5_fault_X2_soundLetters : GoodIn wsX5_fault wsX2_soundLetters := goodIn_r _ [6, 7, 8, 9, 10, 5, 11, 12, 13, 14, 15, 16, 17, 18, 19, 20, 21, 22, 23, 24, 25, 26, 27, 37, 38] (by decide +kernel) (by decide +kernel)
set_option maxRecDepth 20000 in
theorem gX5_fault_X2_soundLetters : GoodIn wsX5_fault (wsV RX5 55 RX2 yX2_soundLetters wsX2_soundLetters) := goodIn_app (goodIn_of _ (by decide +kernel)) ggX5_fault_X2_soundLetters
theorem dX5_fault_0 : decode cX5_fault 0 = .ok (.aload_n 0, 1) := by decide +kernel
theorem dX5_fault_1 : decode cX5_fault 1 = .ok (.getfield 10, 3) := by decide +kernel
theorem dX5_fault_4 : decode cX5_fault 4 = .ok (.invokevirtual 55, 3) := by decide +kernel
theorem dX5_fault_7 : decode cX5_fault 7 = .ok (.ireturn, 1) := by decide +kernel
set_option maxRecDepth 20000 in
theorem ggX5_colony_X2_tellsColony : GoodIn wsX5_colony wsX2_tellsColony := goodIn_r _ [12, 13, 14, 15, 16, 11, 17, 18, 19, 20, 21, 22, 23, 24, 25, 26, 27, 28, 29, 30, 31, 32, 33, 34, 35, 36, 37, 97, 98] (by decide +kernel) (by decide +kernel)
set_option maxRecDepth 20000 in
theorem gX5_colony_X2_tellsColony : GoodIn wsX5_colony (wsV RX5 58 RX2 yX2_tellsColony wsX2_tellsColony) := goodIn_app (goodIn_of _ (by decide +kernel)) ggX5_colony_X2_tellsColony
set_option maxRecDepth 20000 in
theorem ggX5_colony_X2_houses : GoodIn wsX5_colony wsX2_houses := goodIn_r _ [17, 18, 19, 20, 11, 21, 13, 22, 23, 24, 25, 97, 98] (by decide +kernel) (by decide +kernel)
set_option maxRecDepth 20000 in
theorem gX5_colony_X2_houses : GoodIn wsX5_colony (wsV RX5 62 RX2 yX2_houses wsX2_houses) := goodIn_app (goodIn_of _ (by decide +kernel)) ggX5_colony_X2_houses
set_option maxRecDepth 20000 in
theorem ggX5_colony_X0_clear : GoodIn wsX5_colony wsX0_clear := goodIn_r _ [43, 44, 45, 46, 47, 48, 49, 50, 51, 52, 53, 54, 55, 56, 57, 58, 93, 94, 95, 96, 99, 100, 101, 102, 103, 104, 105, 106] (by decide +kernel) (by decide +kernel)
set_option maxRecDepth 20000 in
theorem gX5_colony_X0_clear : GoodIn wsX5_colony (wsV RX5 69 RX0 yX0_clear wsX0_clear) := goodIn_app (goodIn_of _ (by decide +kernel)) ggX5_colony_X0_clear
set_option maxRecDepth 20000 in
theorem ggX5_colony_X2_at : GoodIn wsX5_colony wsX2_at := goodIn_r _ [21, 13, 22, 23, 24, 25, 97, 98] (by decide +kernel) (by decide +kernel)
set_option maxRecDepth 20000 in
theorem gX5_colony_X2_at : GoodIn wsX5_colony (wsV RX5 72 RX2 yX2_at wsX2_at) := goodIn_app (goodIn_of _ (by decide +kernel)) ggX5_colony_X2_at
set_option maxRecDepth 20000 in
theorem ggX5_colony_X5_kindOf : GoodIn wsX5_colony wsX5_kindOf := goodIn_r _ [34] (by decide +kernel) (by decide +kernel)
set_option maxRecDepth 20000 in
theorem gX5_colony_X5_kindOf : GoodIn wsX5_colony (va_wsS RX5 76 yX5_kindOf wsX5_kindOf) := goodIn_app (goodIn_of _ (by decide +kernel)) ggX5_colony_X5_kindOf
set_option maxRecDepth 20000 in
theorem ggX5_colony_X2_digitAt : GoodIn wsX5_colony wsX2_digitAt := goodIn_r _ [64, 18, 19, 20, 11, 21, 13, 22, 23, 24, 25, 97, 98] (by decide +kernel) (by decide +kernel)
set_option maxRecDepth 20000 in
theorem gX5_colony_X2_digitAt : GoodIn wsX5_colony (wsV RX5 79 RX2 yX2_digitAt wsX2_digitAt) := goodIn_app (goodIn_of _ (by decide +kernel)) ggX5_colony_X2_digitAt
set_option maxRecDepth 20000 in
theorem ggX5_colony_X0_setLevel : GoodIn wsX5_colony wsX0_setLevel := goodIn_r _ [68, 69, 23, 24, 25, 93, 94, 95, 96] (by decide +kernel) (by decide +kernel)
set_option maxRecDepth 20000 in
theorem gX5_colony_X0_setLevel : GoodIn wsX5_colony (wsV RX5 82 RX0 yX0_setLevel wsX0_setLevel) := goodIn_app (goodIn_of _ (by decide +kernel)) ggX5_colony_X0_setLevel
set_option maxRecDepth 20000 in
theorem ggX5_colony_X2_size : GoodIn wsX5_colony wsX2_size := goodIn_r _ [73, 13, 97, 98] (by decide +kernel) (by decide +kernel)
set_option maxRecDepth 20000 in
theorem gX5_colony_X2_size : GoodIn wsX5_colony (wsV RX5 48 RX2 yX2_size wsX2_size) := goodIn_app (goodIn_of _ (by decide +kernel)) ggX5_colony_X2_size
set_option maxRecDepth 20000 in
theorem ggX5_colony_X3_add : GoodIn wsX5_colony wsX3_add := goodIn_r _ [77, 52, 78, 79, 99, 100, 101] (by decide +kernel) (by decide +kernel)
set_option maxRecDepth 20000 in
theorem gX5_colony_X3_add : GoodIn wsX5_colony (wsV RX5 90 RX3 yX3_add wsX3_add) := goodIn_app (goodIn_of _ (by decide +kernel)) ggX5_colony_X3_add
set_option maxRecDepth 20000 in
theorem ggX5_colony_X2_wipe : GoodIn wsX5_colony wsX2_wipe := goodIn_r _ [83, 13, 97, 98] (by decide +kernel) (by decide +kernel)
set_option maxRecDepth 20000 in
theorem gX5_colony_X2_wipe : GoodIn wsX5_colony (wsV RX5 52 RX2 yX2_wipe wsX2_wipe) := goodIn_app (goodIn_of _ (by decide +kernel)) ggX5_colony_X2_wipe
theorem dX5_colony_0 : decode cX5_colony 0 = .ok (.aload_n 0, 1) := by decide +kernel
theorem dX5_colony_1 : decode cX5_colony 1 = .ok (.getfield 10, 3) := by decide +kernel
theorem dX5_colony_4 : decode cX5_colony 4 = .ok (.invokevirtual 58, 3) := by decide +kernel
theorem dX5_colony_7 : decode cX5_colony 7 = .ok (.ifCond .ne 6, 3) := by decide +kernel
theorem dX5_colony_10 : decode cX5_colony 10 = .ok (.bipush (-103), 2) := by decide +kernel
theorem dX5_colony_12 : decode cX5_colony 12 = .ok (.ireturn, 1) := by decide +kernel
theorem dX5_colony_13 : decode cX5_colony 13 = .ok (.aload_n 0, 1) := by decide +kernel
theorem dX5_colony_14 : decode cX5_colony 14 = .ok (.aload_n 0, 1) := by decide +kernel
theorem dX5_colony_15 : decode cX5_colony 15 = .ok (.getfield 10, 3) := by decide +kernel
theorem dX5_colony_18 : decode cX5_colony 18 = .ok (.invokevirtual 62, 3) := by decide +kernel
theorem dX5_colony_21 : decode cX5_colony 21 = .ok (.putfield 65, 3) := by decide +kernel
theorem dX5_colony_24 : decode cX5_colony 24 = .ok (.aload_n 0, 1) := by decide +kernel
theorem dX5_colony_25 : decode cX5_colony 25 = .ok (.getfield 23, 3) := by decide +kernel
theorem dX5_colony_28 : decode cX5_colony 28 = .ok (.invokevirtual 69, 3) := by decide +kernel
theorem dX5_colony_31 : decode cX5_colony 31 = .ok (.iconst 0, 1) := by decide +kernel
theorem dX5_colony_32 : decode cX5_colony 32 = .ok (.istore_n 1, 1) := by decide +kernel
theorem dX5_colony_33 : decode cX5_colony 33 = .ok (.iload_n 1, 1) := by decide +kernel
theorem dX5_colony_34 : decode cX5_colony 34 = .ok (.aload_n 0, 1) := by decide +kernel
theorem dX5_colony_35 : decode cX5_colony 35 = .ok (.getfield 65, 3) := by decide +kernel
theorem dX5_colony_38 : decode cX5_colony 38 = .ok (.if_icmp .ge 53, 3) := by decide +kernel
theorem dX5_colony_41 : decode cX5_colony 41 = .ok (.iload_n 1, 1) := by decide +kernel
theorem dX5_colony_42 : decode cX5_colony 42 = .ok (.iconst 5, 1) := by decide +kernel
theorem dX5_colony_43 : decode cX5_colony 43 = .ok (.if_icmp .ge 48, 3) := by decide +kernel
theorem dX5_colony_46 : decode cX5_colony 46 = .ok (.aload_n 0, 1) := by decide +kernel
theorem dX5_colony_47 : decode cX5_colony 47 = .ok (.getfield 16, 3) := by decide +kernel
theorem dX5_colony_50 : decode cX5_colony 50 = .ok (.iload_n 1, 1) := by decide +kernel
theorem dX5_colony_51 : decode cX5_colony 51 = .ok (.aload_n 0, 1) := by decide +kernel
theorem dX5_colony_52 : decode cX5_colony 52 = .ok (.getfield 10, 3) := by decide +kernel
theorem dX5_colony_55 : decode cX5_colony 55 = .ok (.iconst 3, 1) := by decide +kernel
theorem dX5_colony_56 : decode cX5_colony 56 = .ok (.iload_n 1, 1) := by decide +kernel
theorem dX5_colony_57 : decode cX5_colony 57 = .ok (.imul, 1) := by decide +kernel
theorem dX5_colony_58 : decode cX5_colony 58 = .ok (.invokevirtual 72, 3) := by decide +kernel
theorem dX5_colony_61 : decode cX5_colony 61 = .ok (.invokestatic 76, 3) := by decide +kernel
theorem dX5_colony_64 : decode cX5_colony 64 = .ok (.iastore, 1) := by decide +kernel
theorem dX5_colony_65 : decode cX5_colony 65 = .ok (.aload_n 0, 1) := by decide +kernel
theorem dX5_colony_66 : decode cX5_colony 66 = .ok (.getfield 23, 3) := by decide +kernel
theorem dX5_colony_69 : decode cX5_colony 69 = .ok (.iload_n 1, 1) := by decide +kernel
theorem dX5_colony_70 : decode cX5_colony 70 = .ok (.aload_n 0, 1) := by decide +kernel
theorem dX5_colony_71 : decode cX5_colony 71 = .ok (.getfield 10, 3) := by decide +kernel
theorem dX5_colony_74 : decode cX5_colony 74 = .ok (.iconst 3, 1) := by decide +kernel
theorem dX5_colony_75 : decode cX5_colony 75 = .ok (.iload_n 1, 1) := by decide +kernel
theorem dX5_colony_76 : decode cX5_colony 76 = .ok (.imul, 1) := by decide +kernel
theorem dX5_colony_77 : decode cX5_colony 77 = .ok (.iconst 1, 1) := by decide +kernel
theorem dX5_colony_78 : decode cX5_colony 78 = .ok (.iadd, 1) := by decide +kernel
theorem dX5_colony_79 : decode cX5_colony 79 = .ok (.invokevirtual 79, 3) := by decide +kernel
theorem dX5_colony_82 : decode cX5_colony 82 = .ok (.invokevirtual 82, 3) := by decide +kernel
theorem dX5_colony_85 : decode cX5_colony 85 = .ok (.iinc 1 1, 3) := by decide +kernel
theorem dX5_colony_88 : decode cX5_colony 88 = .ok (.goto (-55), 3) := by decide +kernel
theorem dX5_colony_91 : decode cX5_colony 91 = .ok (.iconst 3, 1) := by decide +kernel
theorem dX5_colony_92 : decode cX5_colony 92 = .ok (.aload_n 0, 1) := by decide +kernel
theorem dX5_colony_93 : decode cX5_colony 93 = .ok (.getfield 65, 3) := by decide +kernel
theorem dX5_colony_96 : decode cX5_colony 96 = .ok (.imul, 1) := by decide +kernel
theorem dX5_colony_97 : decode cX5_colony 97 = .ok (.istore_n 1, 1) := by decide +kernel
theorem dX5_colony_98 : decode cX5_colony 98 = .ok (.iload_n 1, 1) := by decide +kernel
theorem dX5_colony_99 : decode cX5_colony 99 = .ok (.istore_n 2, 1) := by decide +kernel
theorem dX5_colony_100 : decode cX5_colony 100 = .ok (.iload_n 2, 1) := by decide +kernel
theorem dX5_colony_101 : decode cX5_colony 101 = .ok (.iconst 1, 1) := by decide +kernel
theorem dX5_colony_102 : decode cX5_colony 102 = .ok (.iadd, 1) := by decide +kernel
theorem dX5_colony_103 : decode cX5_colony 103 = .ok (.aload_n 0, 1) := by decide +kernel
theorem dX5_colony_104 : decode cX5_colony 104 = .ok (.getfield 10, 3) := by decide +kernel
theorem dX5_colony_107 : decode cX5_colony 107 = .ok (.invokevirtual 48, 3) := by decide +kernel
theorem dX5_colony_110 : decode cX5_colony 110 = .ok (.if_icmp .ge 38, 3) := by decide +kernel
theorem dX5_colony_113 : decode cX5_colony 113 = .ok (.aload_n 0, 1) := by decide +kernel
theorem dX5_colony_114 : decode cX5_colony 114 = .ok (.getfield 23, 3) := by decide +kernel
theorem dX5_colony_117 : decode cX5_colony 117 = .ok (.getfield 86, 3) := by decide +kernel
theorem dX5_colony_120 : decode cX5_colony 120 = .ok (.aload_n 0, 1) := by decide +kernel
theorem dX5_colony_121 : decode cX5_colony 121 = .ok (.getfield 10, 3) := by decide +kernel
theorem dX5_colony_124 : decode cX5_colony 124 = .ok (.iload_n 2, 1) := by decide +kernel
theorem dX5_colony_125 : decode cX5_colony 125 = .ok (.invokevirtual 79, 3) := by decide +kernel
theorem dX5_colony_128 : decode cX5_colony 128 = .ok (.aload_n 0, 1) := by decide +kernel
theorem dX5_colony_129 : decode cX5_colony 129 = .ok (.getfield 10, 3) := by decide +kernel
theorem dX5_colony_132 : decode cX5_colony 132 = .ok (.iload_n 2, 1) := by decide +kernel
theorem dX5_colony_133 : decode cX5_colony 133 = .ok (.iconst 1, 1) := by decide +kernel
theorem dX5_colony_134 : decode cX5_colony 134 = .ok (.iadd, 1) := by decide +kernel
theorem dX5_colony_135 : decode cX5_colony 135 = .ok (.invokevirtual 79, 3) := by decide +kernel
theorem dX5_colony_138 : decode cX5_colony 138 = .ok (.invokevirtual 90, 3) := by decide +kernel
theorem dX5_colony_141 : decode cX5_colony 141 = .ok (.pop, 1) := by decide +kernel
theorem dX5_colony_142 : decode cX5_colony 142 = .ok (.iinc 2 2, 3) := by decide +kernel
theorem dX5_colony_145 : decode cX5_colony 145 = .ok (.goto (-45), 3) := by decide +kernel
theorem dX5_colony_148 : decode cX5_colony 148 = .ok (.aload_n 0, 1) := by decide +kernel
theorem dX5_colony_149 : decode cX5_colony 149 = .ok (.iconst 0, 1) := by decide +kernel
theorem dX5_colony_150 : decode cX5_colony 150 = .ok (.putfield 96, 3) := by decide +kernel
theorem dX5_colony_153 : decode cX5_colony 153 = .ok (.aload_n 0, 1) := by decide +kernel
theorem dX5_colony_154 : decode cX5_colony 154 = .ok (.dup, 1) := by decide +kernel
theorem dX5_colony_155 : decode cX5_colony 155 = .ok (.getfield 100, 3) := by decide +kernel
theorem dX5_colony_158 : decode cX5_colony 158 = .ok (.iconst 1, 1) := by decide +kernel
theorem dX5_colony_159 : decode cX5_colony 159 = .ok (.iadd, 1) := by decide +kernel
theorem dX5_colony_160 : decode cX5_colony 160 = .ok (.putfield 100, 3) := by decide +kernel
theorem dX5_colony_163 : decode cX5_colony 163 = .ok (.aload_n 0, 1) := by decide +kernel
theorem dX5_colony_164 : decode cX5_colony 164 = .ok (.getfield 10, 3) := by decide +kernel
theorem dX5_colony_167 : decode cX5_colony 167 = .ok (.invokevirtual 52, 3) := by decide +kernel
theorem dX5_colony_170 : decode cX5_colony 170 = .ok (.pop, 1) := by decide +kernel
theorem dX5_colony_171 : decode cX5_colony 171 = .ok (.aload_n 0, 1) := by decide +kernel
theorem dX5_colony_172 : decode cX5_colony 172 = .ok (.getfield 65, 3) := by decide +kernel
theorem dX5_colony_175 : decode cX5_colony 175 = .ok (.ireturn, 1) := by decide +kernel
set_option maxRecDepth 20000 in
theorem ggX5_about_X5_isHouse : GoodIn wsX5_about wsX5_isHouse := goodIn_r _ [6, 7, 8, 9, 5, 10, 89, 90, 91, 92, 93, 94, 95, 96, 97] (by decide +kernel) (by decide +kernel)
set_option maxRecDepth 20000 in
theorem gX5_about_X5_isHouse : GoodIn wsX5_about (wsV RX5 103 RX5 yX5_isHouse wsX5_isHouse) := goodIn_app (goodIn_of _ (by decide +kernel)) ggX5_about_X5_isHouse
set_option maxRecDepth 20000 in
theorem ggX5_about_X5_isWithin : GoodIn wsX5_about wsX5_isWithin := goodIn_r _ [10] (by decide +kernel) (by decide +kernel)
set_option maxRecDepth 20000 in
theorem gX5_about_X5_isWithin : GoodIn wsX5_about (va_wsS RX5 40 yX5_isWithin wsX5_isWithin) := goodIn_app (goodIn_of _ (by decide +kernel)) ggX5_about_X5_isWithin
set_option maxRecDepth 20000 in
theorem ggX5_about_X5_tideNow : GoodIn wsX5_about wsX5_tideNow := goodIn_r _ [14, 15, 1, 16, 17, 18, 19, 20, 21, 22, 23, 24, 25, 26, 27, 28, 29, 30, 31, 32, 33, 34, 35, 36, 37, 9, 5, 10, 38, 39, 40, 41, 42, 43, 44, 45, 46, 47, 48, 49, 50, 89, 90, 91, 92, 93, 94, 95, 96, 97, 98, 99, 100, 101, 102, 103, 104, 105] (by decide +kernel) (by decide +kernel)
set_option maxRecDepth 20000 in
theorem gX5_about_X5_tideNow : GoodIn wsX5_about (wsV RX5 106 RX5 yX5_tideNow wsX5_tideNow) := goodIn_app (goodIn_of _ (by decide +kernel)) ggX5_about_X5_tideNow
set_option maxRecDepth 20000 in
theorem ggX5_about_X5_kindAt : GoodIn wsX5_about wsX5_kindAt := goodIn_r _ [54, 55, 8, 9, 5, 10, 89, 90, 91, 92, 93, 94, 95, 96, 97] (by decide +kernel) (by decide +kernel)
set_option maxRecDepth 20000 in
theorem gX5_about_X5_kindAt : GoodIn wsX5_about (wsV RX5 110 RX5 yX5_kindAt wsX5_kindAt) := goodIn_app (goodIn_of _ (by decide +kernel)) ggX5_about_X5_kindAt
set_option maxRecDepth 20000 in
theorem ggX5_about_X0_level : GoodIn wsX5_about wsX0_level := goodIn_r _ [60, 61, 9, 5, 10, 98, 99, 100, 101] (by decide +kernel) (by decide +kernel)
set_option maxRecDepth 20000 in
theorem gX5_about_X0_level : GoodIn wsX5_about (wsV RX5 113 RX0 yX0_level wsX0_level) := goodIn_app (goodIn_of _ (by decide +kernel)) ggX5_about_X0_level
set_option maxRecDepth 20000 in
theorem ggX5_about_X5_hoursOf : GoodIn wsX5_about wsX5_hoursOf := goodIn_r _ [65, 66, 67, 68, 5, 69, 1, 70, 48, 49, 50, 71, 72, 73, 56, 57, 58, 59, 60, 61, 9, 10, 51, 52, 53, 54, 55, 8, 74, 75, 76, 20, 77, 22, 78, 79, 80, 81, 82, 83, 84, 89, 90, 91, 92, 93, 94, 95, 96, 97, 98, 99, 100, 101, 102] (by decide +kernel) (by decide +kernel)
set_option maxRecDepth 20000 in
theorem gX5_about_X5_hoursOf : GoodIn wsX5_about (wsV RX5 116 RX5 yX5_hoursOf wsX5_hoursOf) := goodIn_app (goodIn_of _ (by decide +kernel)) ggX5_about_X5_hoursOf
set_option maxRecDepth 20000 in
theorem ggX5_about_X5_hourOfMostManners : GoodIn wsX5_about wsX5_hourOfMostManners := goodIn_r _ [88, 66, 67, 68, 5, 69, 1, 70, 48, 49, 50, 71, 72, 73, 56, 57, 58, 59, 60, 61, 9, 10, 51, 52, 53, 54, 55, 8, 74, 75, 76, 20, 77, 22, 78, 79, 80, 81, 89, 90, 91, 92, 93, 94, 95, 96, 97, 98, 99, 100, 101, 102] (by decide +kernel) (by decide +kernel)
set_option maxRecDepth 20000 in
theorem gX5_about_X5_hourOfMostManners : GoodIn wsX5_about (wsV RX5 120 RX5 yX5_hourOfMostManners wsX5_hourOfMostManners) := goodIn_app (goodIn_of _ (by decide +kernel)) ggX5_about_X5_hourOfMostManners
set_option maxRecDepth 20000 in
theorem ggX5_about_X5_mannersAt : GoodIn wsX5_about wsX5_mannersAt := goodIn_r _ [69, 1, 70, 48, 49, 50, 71, 72, 73, 56, 57, 58, 59, 60, 61, 9, 5, 10, 51, 52, 53, 54, 55, 8, 74, 75, 76, 20, 77, 22, 78, 79, 80, 81, 89, 90, 91, 92, 93, 94, 95, 96, 97, 98, 99, 100, 101, 102] (by decide +kernel) (by decide +kernel)
set_option maxRecDepth 20000 in
theorem gX5_about_X5_mannersAt : GoodIn wsX5_about (wsV RX5 124 RX5 yX5_mannersAt wsX5_mannersAt) := goodIn_app (goodIn_of _ (by decide +kernel)) ggX5_about_X5_mannersAt
theorem dX5_about_0 : decode cX5_about 0 = .ok (.aload_n 0, 1) := by decide +kernel
theorem dX5_about_1 : decode cX5_about 1 = .ok (.iload_n 1, 1) := by decide +kernel
theorem dX5_about_2 : decode cX5_about 2 = .ok (.invokevirtual 103, 3) := by decide +kernel
theorem dX5_about_5 : decode cX5_about 5 = .ok (.ifCond .ne 6, 3) := by decide +kernel
theorem dX5_about_8 : decode cX5_about 8 = .ok (.bipush (-101), 2) := by decide +kernel
theorem dX5_about_10 : decode cX5_about 10 = .ok (.ireturn, 1) := by decide +kernel
theorem dX5_about_11 : decode cX5_about 11 = .ok (.iload_n 2, 1) := by decide +kernel
theorem dX5_about_12 : decode cX5_about 12 = .ok (.iconst 0, 1) := by decide +kernel
theorem dX5_about_13 : decode cX5_about 13 = .ok (.iconst 4, 1) := by decide +kernel
theorem dX5_about_14 : decode cX5_about 14 = .ok (.invokestatic 40, 3) := by decide +kernel
theorem dX5_about_17 : decode cX5_about 17 = .ok (.ifCond .ne 17, 3) := by decide +kernel
theorem dX5_about_20 : decode cX5_about 20 = .ok (.iload_n 2, 1) := by decide +kernel
theorem dX5_about_21 : decode cX5_about 21 = .ok (.bipush 10, 2) := by decide +kernel
theorem dX5_about_23 : decode cX5_about 23 = .ok (.bipush 21, 2) := by decide +kernel
theorem dX5_about_25 : decode cX5_about 25 = .ok (.invokestatic 40, 3) := by decide +kernel
theorem dX5_about_28 : decode cX5_about 28 = .ok (.ifCond .ne 6, 3) := by decide +kernel
theorem dX5_about_31 : decode cX5_about 31 = .ok (.bipush (-102), 2) := by decide +kernel
theorem dX5_about_33 : decode cX5_about 33 = .ok (.ireturn, 1) := by decide +kernel
theorem dX5_about_34 : decode cX5_about 34 = .ok (.aload_n 0, 1) := by decide +kernel
theorem dX5_about_35 : decode cX5_about 35 = .ok (.invokevirtual 106, 3) := by decide +kernel
theorem dX5_about_38 : decode cX5_about 38 = .ok (.astore_n 3, 1) := by decide +kernel
theorem dX5_about_39 : decode cX5_about 39 = .ok (.iload_n 2, 1) := by decide +kernel
theorem dX5_about_40 : decode cX5_about 40 = .ok (.tableswitch 79 0 4 #[36, 42, 51, 59, 72], 36) := by decide +kernel
theorem dX5_about_76 : decode cX5_about 76 = .ok (.aload_n 0, 1) := by decide +kernel
theorem dX5_about_77 : decode cX5_about 77 = .ok (.iload_n 1, 1) := by decide +kernel
theorem dX5_about_78 : decode cX5_about 78 = .ok (.invokevirtual 110, 3) := by decide +kernel
theorem dX5_about_81 : decode cX5_about 81 = .ok (.ireturn, 1) := by decide +kernel
theorem dX5_about_82 : decode cX5_about 82 = .ok (.aload_n 0, 1) := by decide +kernel
theorem dX5_about_83 : decode cX5_about 83 = .ok (.getfield 23, 3) := by decide +kernel
theorem dX5_about_86 : decode cX5_about 86 = .ok (.iload_n 1, 1) := by decide +kernel
theorem dX5_about_87 : decode cX5_about 87 = .ok (.invokevirtual 113, 3) := by decide +kernel
theorem dX5_about_90 : decode cX5_about 90 = .ok (.ireturn, 1) := by decide +kernel
theorem dX5_about_91 : decode cX5_about 91 = .ok (.aload_n 0, 1) := by decide +kernel
theorem dX5_about_92 : decode cX5_about 92 = .ok (.iconst 0, 1) := by decide +kernel
theorem dX5_about_93 : decode cX5_about 93 = .ok (.iload_n 1, 1) := by decide +kernel
theorem dX5_about_94 : decode cX5_about 94 = .ok (.aload_n 3, 1) := by decide +kernel
theorem dX5_about_95 : decode cX5_about 95 = .ok (.invokevirtual 116, 3) := by decide +kernel
theorem dX5_about_98 : decode cX5_about 98 = .ok (.ireturn, 1) := by decide +kernel
theorem dX5_about_99 : decode cX5_about 99 = .ok (.aload_n 0, 1) := by decide +kernel
theorem dX5_about_100 : decode cX5_about 100 = .ok (.iload_n 1, 1) := by decide +kernel
theorem dX5_about_101 : decode cX5_about 101 = .ok (.aload_n 3, 1) := by decide +kernel
theorem dX5_about_102 : decode cX5_about 102 = .ok (.aload_n 0, 1) := by decide +kernel
theorem dX5_about_103 : decode cX5_about 103 = .ok (.iload_n 1, 1) := by decide +kernel
theorem dX5_about_104 : decode cX5_about 104 = .ok (.aload_n 3, 1) := by decide +kernel
theorem dX5_about_105 : decode cX5_about 105 = .ok (.invokevirtual 120, 3) := by decide +kernel
theorem dX5_about_108 : decode cX5_about 108 = .ok (.invokevirtual 124, 3) := by decide +kernel
theorem dX5_about_111 : decode cX5_about 111 = .ok (.ireturn, 1) := by decide +kernel
theorem dX5_about_112 : decode cX5_about 112 = .ok (.aload_n 0, 1) := by decide +kernel
theorem dX5_about_113 : decode cX5_about 113 = .ok (.iload_n 1, 1) := by decide +kernel
theorem dX5_about_114 : decode cX5_about 114 = .ok (.aload_n 3, 1) := by decide +kernel
theorem dX5_about_115 : decode cX5_about 115 = .ok (.invokevirtual 120, 3) := by decide +kernel
theorem dX5_about_118 : decode cX5_about 118 = .ok (.ireturn, 1) := by decide +kernel
theorem dX5_about_119 : decode cX5_about 119 = .ok (.aload_n 0, 1) := by decide +kernel
theorem dX5_about_120 : decode cX5_about 120 = .ok (.iload_n 1, 1) := by decide +kernel
theorem dX5_about_121 : decode cX5_about 121 = .ok (.aload_n 3, 1) := by decide +kernel
theorem dX5_about_122 : decode cX5_about 122 = .ok (.iload_n 2, 1) := by decide +kernel
theorem dX5_about_123 : decode cX5_about 123 = .ok (.bipush 10, 2) := by decide +kernel
theorem dX5_about_125 : decode cX5_about 125 = .ok (.isub, 1) := by decide +kernel
theorem dX5_about_126 : decode cX5_about 126 = .ok (.invokevirtual 124, 3) := by decide +kernel
theorem dX5_about_129 : decode cX5_about 129 = .ok (.ireturn, 1) := by decide +kernel
set_option maxRecDepth 20000 in
theorem ggX5_as_X5_isHouse : GoodIn wsX5_as wsX5_isHouse := goodIn_r _ [5, 6, 7, 8, 4, 9, 15, 16, 17, 18, 19, 20, 21, 22, 23] (by decide +kernel) (by decide +kernel)
set_option maxRecDepth 20000 in
theorem gX5_as_X5_isHouse : GoodIn wsX5_as (wsV RX5 103 RX5 yX5_isHouse wsX5_isHouse) := goodIn_app (goodIn_of _ (by decide +kernel)) ggX5_as_X5_isHouse
set_option maxRecDepth 20000 in
theorem ggX5_as_X5_isWithin : GoodIn wsX5_as wsX5_isWithin := goodIn_r _ [9] (by decide +kernel) (by decide +kernel)
set_option maxRecDepth 20000 in
theorem gX5_as_X5_isWithin : GoodIn wsX5_as (va_wsS RX5 40 yX5_isWithin wsX5_isWithin) := goodIn_app (goodIn_of _ (by decide +kernel)) ggX5_as_X5_isWithin
set_option maxRecDepth 20000 in
theorem ggX5_as_X5_kindAt : GoodIn wsX5_as wsX5_kindAt := goodIn_r _ [13, 14, 7, 8, 4, 9, 15, 16, 17, 18, 19, 20, 21, 22, 23] (by decide +kernel) (by decide +kernel)
set_option maxRecDepth 20000 in
theorem gX5_as_X5_kindAt : GoodIn wsX5_as (wsV RX5 110 RX5 yX5_kindAt wsX5_kindAt) := goodIn_app (goodIn_of _ (by decide +kernel)) ggX5_as_X5_kindAt
theorem dX5_as_0 : decode cX5_as 0 = .ok (.aload_n 0, 1) := by decide +kernel
theorem dX5_as_1 : decode cX5_as 1 = .ok (.iload_n 1, 1) := by decide +kernel
theorem dX5_as_2 : decode cX5_as 2 = .ok (.invokevirtual 103, 3) := by decide +kernel
theorem dX5_as_5 : decode cX5_as 5 = .ok (.ifCond .ne 6, 3) := by decide +kernel
theorem dX5_as_8 : decode cX5_as 8 = .ok (.bipush (-101), 2) := by decide +kernel
theorem dX5_as_10 : decode cX5_as 10 = .ok (.ireturn, 1) := by decide +kernel
theorem dX5_as_11 : decode cX5_as 11 = .ok (.iload_n 2, 1) := by decide +kernel
theorem dX5_as_12 : decode cX5_as 12 = .ok (.iconst 0, 1) := by decide +kernel
theorem dX5_as_13 : decode cX5_as 13 = .ok (.iconst 4, 1) := by decide +kernel
theorem dX5_as_14 : decode cX5_as 14 = .ok (.invokestatic 40, 3) := by decide +kernel
theorem dX5_as_17 : decode cX5_as 17 = .ok (.ifCond .ne 6, 3) := by decide +kernel
theorem dX5_as_20 : decode cX5_as 20 = .ok (.bipush (-102), 2) := by decide +kernel
theorem dX5_as_22 : decode cX5_as 22 = .ok (.ireturn, 1) := by decide +kernel
theorem dX5_as_23 : decode cX5_as 23 = .ok (.aload_n 0, 1) := by decide +kernel
theorem dX5_as_24 : decode cX5_as 24 = .ok (.iload_n 1, 1) := by decide +kernel
theorem dX5_as_25 : decode cX5_as 25 = .ok (.invokevirtual 110, 3) := by decide +kernel
theorem dX5_as_28 : decode cX5_as 28 = .ok (.istore_n 3, 1) := by decide +kernel
theorem dX5_as_29 : decode cX5_as 29 = .ok (.iload_n 2, 1) := by decide +kernel
theorem dX5_as_30 : decode cX5_as 30 = .ok (.ifCond .eq 18, 3) := by decide +kernel
theorem dX5_as_33 : decode cX5_as 33 = .ok (.iload_n 2, 1) := by decide +kernel
theorem dX5_as_34 : decode cX5_as 34 = .ok (.iload_n 3, 1) := by decide +kernel
theorem dX5_as_35 : decode cX5_as 35 = .ok (.if_icmp .eq 13, 3) := by decide +kernel
theorem dX5_as_38 : decode cX5_as 38 = .ok (.iload_n 2, 1) := by decide +kernel
theorem dX5_as_39 : decode cX5_as 39 = .ok (.iconst 1, 1) := by decide +kernel
theorem dX5_as_40 : decode cX5_as 40 = .ok (.if_icmp .ne 12, 3) := by decide +kernel
theorem dX5_as_43 : decode cX5_as 43 = .ok (.iload_n 3, 1) := by decide +kernel
theorem dX5_as_44 : decode cX5_as 44 = .ok (.iconst 4, 1) := by decide +kernel
theorem dX5_as_45 : decode cX5_as 45 = .ok (.if_icmp .ne 7, 3) := by decide +kernel
theorem dX5_as_48 : decode cX5_as 48 = .ok (.iconst 1, 1) := by decide +kernel
theorem dX5_as_49 : decode cX5_as 49 = .ok (.goto 4, 3) := by decide +kernel
theorem dX5_as_52 : decode cX5_as 52 = .ok (.iconst 0, 1) := by decide +kernel
theorem dX5_as_53 : decode cX5_as 53 = .ok (.istore 4, 2) := by decide +kernel
theorem dX5_as_55 : decode cX5_as 55 = .ok (.iload 4, 2) := by decide +kernel
theorem dX5_as_57 : decode cX5_as 57 = .ok (.ifCond .eq 7, 3) := by decide +kernel
theorem dX5_as_60 : decode cX5_as 60 = .ok (.iload_n 1, 1) := by decide +kernel
theorem dX5_as_61 : decode cX5_as 61 = .ok (.goto 4, 3) := by decide +kernel
theorem dX5_as_64 : decode cX5_as 64 = .ok (.iconst (-1), 1) := by decide +kernel
theorem dX5_as_65 : decode cX5_as 65 = .ok (.ireturn, 1) := by decide +kernel
set_option maxRecDepth 20000 in
theorem ggX5_raise_X5_isHouse : GoodIn wsX5_raise wsX5_isHouse := goodIn_r _ [7, 8, 9, 10, 6, 11, 22, 23, 24, 25, 26, 27, 28, 29, 30] (by decide +kernel) (by decide +kernel)
set_option maxRecDepth 20000 in
theorem gX5_raise_X5_isHouse : GoodIn wsX5_raise (wsV RX5 103 RX5 yX5_isHouse wsX5_isHouse) := goodIn_app (goodIn_of _ (by decide +kernel)) ggX5_raise_X5_isHouse
set_option maxRecDepth 20000 in
theorem ggX5_raise_X5_isWithin : GoodIn wsX5_raise wsX5_isWithin := goodIn_r _ [11] (by decide +kernel) (by decide +kernel)
set_option maxRecDepth 20000 in
theorem gX5_raise_X5_isWithin : GoodIn wsX5_raise (va_wsS RX5 40 yX5_isWithin wsX5_isWithin) := goodIn_app (goodIn_of _ (by decide +kernel)) ggX5_raise_X5_isWithin
set_option maxRecDepth 20000 in
theorem ggX5_raise_X0_level : GoodIn wsX5_raise wsX0_level := goodIn_r _ [16, 17, 10, 6, 11, 31, 32, 33, 34] (by decide +kernel) (by decide +kernel)
set_option maxRecDepth 20000 in
theorem gX5_raise_X0_level : GoodIn wsX5_raise (wsV RX5 113 RX0 yX0_level wsX0_level) := goodIn_app (goodIn_of _ (by decide +kernel)) ggX5_raise_X0_level
set_option maxRecDepth 20000 in
theorem ggX5_raise_X0_setLevel : GoodIn wsX5_raise wsX0_setLevel := goodIn_r _ [21, 17, 10, 6, 11, 31, 32, 33, 34] (by decide +kernel) (by decide +kernel)
set_option maxRecDepth 20000 in
theorem gX5_raise_X0_setLevel : GoodIn wsX5_raise (wsV RX5 82 RX0 yX0_setLevel wsX0_setLevel) := goodIn_app (goodIn_of _ (by decide +kernel)) ggX5_raise_X0_setLevel
theorem dX5_raise_0 : decode cX5_raise 0 = .ok (.aload_n 0, 1) := by decide +kernel
theorem dX5_raise_1 : decode cX5_raise 1 = .ok (.iload_n 1, 1) := by decide +kernel
theorem dX5_raise_2 : decode cX5_raise 2 = .ok (.invokevirtual 103, 3) := by decide +kernel
theorem dX5_raise_5 : decode cX5_raise 5 = .ok (.ifCond .ne 6, 3) := by decide +kernel
theorem dX5_raise_8 : decode cX5_raise 8 = .ok (.bipush (-101), 2) := by decide +kernel
theorem dX5_raise_10 : decode cX5_raise 10 = .ok (.ireturn, 1) := by decide +kernel
theorem dX5_raise_11 : decode cX5_raise 11 = .ok (.iload_n 2, 1) := by decide +kernel
theorem dX5_raise_12 : decode cX5_raise 12 = .ok (.iconst 0, 1) := by decide +kernel
theorem dX5_raise_13 : decode cX5_raise 13 = .ok (.bipush 9, 2) := by decide +kernel
theorem dX5_raise_15 : decode cX5_raise 15 = .ok (.invokestatic 40, 3) := by decide +kernel
theorem dX5_raise_18 : decode cX5_raise 18 = .ok (.ifCond .ne 6, 3) := by decide +kernel
theorem dX5_raise_21 : decode cX5_raise 21 = .ok (.bipush (-102), 2) := by decide +kernel
theorem dX5_raise_23 : decode cX5_raise 23 = .ok (.ireturn, 1) := by decide +kernel
theorem dX5_raise_24 : decode cX5_raise 24 = .ok (.aload_n 0, 1) := by decide +kernel
theorem dX5_raise_25 : decode cX5_raise 25 = .ok (.getfield 23, 3) := by decide +kernel
theorem dX5_raise_28 : decode cX5_raise 28 = .ok (.iload_n 1, 1) := by decide +kernel
theorem dX5_raise_29 : decode cX5_raise 29 = .ok (.invokevirtual 113, 3) := by decide +kernel
theorem dX5_raise_32 : decode cX5_raise 32 = .ok (.istore_n 3, 1) := by decide +kernel
theorem dX5_raise_33 : decode cX5_raise 33 = .ok (.aload_n 0, 1) := by decide +kernel
theorem dX5_raise_34 : decode cX5_raise 34 = .ok (.getfield 23, 3) := by decide +kernel
theorem dX5_raise_37 : decode cX5_raise 37 = .ok (.iload_n 1, 1) := by decide +kernel
theorem dX5_raise_38 : decode cX5_raise 38 = .ok (.iload_n 2, 1) := by decide +kernel
theorem dX5_raise_39 : decode cX5_raise 39 = .ok (.invokevirtual 82, 3) := by decide +kernel
theorem dX5_raise_42 : decode cX5_raise 42 = .ok (.aload_n 0, 1) := by decide +kernel
theorem dX5_raise_43 : decode cX5_raise 43 = .ok (.getfield 23, 3) := by decide +kernel
theorem dX5_raise_46 : decode cX5_raise 46 = .ok (.dup, 1) := by decide +kernel
theorem dX5_raise_47 : decode cX5_raise 47 = .ok (.getfield 128, 3) := by decide +kernel
theorem dX5_raise_50 : decode cX5_raise 50 = .ok (.iconst 1, 1) := by decide +kernel
theorem dX5_raise_51 : decode cX5_raise 51 = .ok (.iadd, 1) := by decide +kernel
theorem dX5_raise_52 : decode cX5_raise 52 = .ok (.putfield 128, 3) := by decide +kernel
theorem dX5_raise_55 : decode cX5_raise 55 = .ok (.iload_n 3, 1) := by decide +kernel
theorem dX5_raise_56 : decode cX5_raise 56 = .ok (.ireturn, 1) := by decide +kernel
set_option maxRecDepth 20000 in
theorem ggX5_tide_X5_isHourOfDay : GoodIn wsX5_tide wsX5_isHourOfDay := goodIn_r _ [4, 5, 6, 3, 7] (by decide +kernel) (by decide +kernel)
set_option maxRecDepth 20000 in
theorem gX5_tide_X5_isHourOfDay : GoodIn wsX5_tide (va_wsS RX5 131 yX5_isHourOfDay wsX5_isHourOfDay) := goodIn_app (goodIn_of _ (by decide +kernel)) ggX5_tide_X5_isHourOfDay
set_option maxRecDepth 20000 in
theorem ggX5_tide_X5_hasColony : GoodIn wsX5_tide wsX5_hasColony := goodIn_r _ [11, 12, 61, 62, 63, 64, 65, 66, 67, 68, 69] (by decide +kernel) (by decide +kernel)
set_option maxRecDepth 20000 in
theorem gX5_tide_X5_hasColony : GoodIn wsX5_tide (wsV RX5 134 RX5 yX5_hasColony wsX5_hasColony) := goodIn_app (goodIn_of _ (by decide +kernel)) ggX5_tide_X5_hasColony
set_option maxRecDepth 20000 in
theorem ggX5_tide_X5_tideNow : GoodIn wsX5_tide wsX5_tideNow := goodIn_r _ [16, 17, 18, 19, 20, 21, 22, 23, 24, 25, 26, 27, 28, 29, 30, 31, 32, 33, 34, 35, 36, 37, 38, 39, 40, 6, 3, 7, 41, 42, 43, 44, 45, 46, 47, 48, 49, 50, 51, 52, 53, 61, 62, 63, 64, 65, 66, 67, 68, 69, 70, 71, 72, 73, 74, 75, 76, 77] (by decide +kernel) (by decide +kernel)
set_option maxRecDepth 20000 in
theorem gX5_tide_X5_tideNow : GoodIn wsX5_tide (wsV RX5 106 RX5 yX5_tideNow wsX5_tideNow) := goodIn_app (goodIn_of _ (by decide +kernel)) ggX5_tide_X5_tideNow
set_option maxRecDepth 20000 in
theorem ggX5_tide_X4_at : GoodIn wsX5_tide wsX4_at := goodIn_r _ [57, 25, 58, 59, 52, 60, 74] (by decide +kernel) (by decide +kernel)
set_option maxRecDepth 20000 in
theorem gX5_tide_X4_at : GoodIn wsX5_tide (wsV RX5 137 RX4 yX4_at wsX4_at) := goodIn_app (goodIn_of _ (by decide +kernel)) ggX5_tide_X4_at
theorem dX5_tide_0 : decode cX5_tide 0 = .ok (.iload_n 1, 1) := by decide +kernel
theorem dX5_tide_1 : decode cX5_tide 1 = .ok (.invokestatic 131, 3) := by decide +kernel
theorem dX5_tide_4 : decode cX5_tide 4 = .ok (.ifCond .ne 6, 3) := by decide +kernel
theorem dX5_tide_7 : decode cX5_tide 7 = .ok (.bipush (-102), 2) := by decide +kernel
theorem dX5_tide_9 : decode cX5_tide 9 = .ok (.ireturn, 1) := by decide +kernel
theorem dX5_tide_10 : decode cX5_tide 10 = .ok (.aload_n 0, 1) := by decide +kernel
theorem dX5_tide_11 : decode cX5_tide 11 = .ok (.invokevirtual 134, 3) := by decide +kernel
theorem dX5_tide_14 : decode cX5_tide 14 = .ok (.ifCond .eq 14, 3) := by decide +kernel
theorem dX5_tide_17 : decode cX5_tide 17 = .ok (.aload_n 0, 1) := by decide +kernel
theorem dX5_tide_18 : decode cX5_tide 18 = .ok (.invokevirtual 106, 3) := by decide +kernel
theorem dX5_tide_21 : decode cX5_tide 21 = .ok (.iload_n 1, 1) := by decide +kernel
theorem dX5_tide_22 : decode cX5_tide 22 = .ok (.invokevirtual 137, 3) := by decide +kernel
theorem dX5_tide_25 : decode cX5_tide 25 = .ok (.goto 5, 3) := by decide +kernel
theorem dX5_tide_28 : decode cX5_tide 28 = .ok (.bipush (-103), 2) := by decide +kernel
theorem dX5_tide_30 : decode cX5_tide 30 = .ok (.ireturn, 1) := by decide +kernel
set_option maxRecDepth 20000 in
theorem ggX5_strike_X5_isWithin : GoodIn wsX5_strike wsX5_isWithin := goodIn_r _ [7] (by decide +kernel) (by decide +kernel)
set_option maxRecDepth 20000 in
theorem gX5_strike_X5_isWithin : GoodIn wsX5_strike (va_wsS RX5 40 yX5_isWithin wsX5_isWithin) := goodIn_app (goodIn_of _ (by decide +kernel)) ggX5_strike_X5_isWithin
set_option maxRecDepth 20000 in
theorem ggX5_strike_X5_isHeardLoud : GoodIn wsX5_strike wsX5_isHeardLoud := goodIn_r _ [10, 4, 5, 6, 7] (by decide +kernel) (by decide +kernel)
set_option maxRecDepth 20000 in
theorem gX5_strike_X5_isHeardLoud : GoodIn wsX5_strike (va_wsS RX5 138 yX5_isHeardLoud wsX5_isHeardLoud) := goodIn_app (goodIn_of _ (by decide +kernel)) ggX5_strike_X5_isHeardLoud
set_option maxRecDepth 20000 in
theorem ggX5_strike_X5_hasColony : GoodIn wsX5_strike wsX5_hasColony := goodIn_r _ [14, 15, 28, 29, 30, 31, 32, 33, 34, 35, 36] (by decide +kernel) (by decide +kernel)
set_option maxRecDepth 20000 in
theorem gX5_strike_X5_hasColony : GoodIn wsX5_strike (wsV RX5 134 RX5 yX5_hasColony wsX5_hasColony) := goodIn_app (goodIn_of _ (by decide +kernel)) ggX5_strike_X5_hasColony
set_option maxRecDepth 20000 in
theorem ggX5_strike_X3_add : GoodIn wsX5_strike wsX3_add := goodIn_r _ [20, 21, 22, 23, 41, 42, 43] (by decide +kernel) (by decide +kernel)
set_option maxRecDepth 20000 in
theorem gX5_strike_X3_add : GoodIn wsX5_strike (wsV RX5 90 RX3 yX3_add wsX3_add) := goodIn_app (goodIn_of _ (by decide +kernel)) ggX5_strike_X3_add
set_option maxRecDepth 20000 in
theorem ggX5_strike_X3_size : GoodIn wsX5_strike wsX3_size := goodIn_r _ [27, 21, 41, 42, 43] (by decide +kernel) (by decide +kernel)
set_option maxRecDepth 20000 in
theorem gX5_strike_X3_size : GoodIn wsX5_strike (wsV RX5 141 RX3 yX3_size wsX3_size) := goodIn_app (goodIn_of _ (by decide +kernel)) ggX5_strike_X3_size
theorem dX5_strike_0 : decode cX5_strike 0 = .ok (.iload_n 1, 1) := by decide +kernel
theorem dX5_strike_1 : decode cX5_strike 1 = .ok (.iconst 0, 1) := by decide +kernel
theorem dX5_strike_2 : decode cX5_strike 2 = .ok (.bipush 9, 2) := by decide +kernel
theorem dX5_strike_4 : decode cX5_strike 4 = .ok (.invokestatic 40, 3) := by decide +kernel
theorem dX5_strike_7 : decode cX5_strike 7 = .ok (.ifCond .eq 10, 3) := by decide +kernel
theorem dX5_strike_10 : decode cX5_strike 10 = .ok (.iload_n 2, 1) := by decide +kernel
theorem dX5_strike_11 : decode cX5_strike 11 = .ok (.invokestatic 138, 3) := by decide +kernel
theorem dX5_strike_14 : decode cX5_strike 14 = .ok (.ifCond .ne 6, 3) := by decide +kernel
theorem dX5_strike_17 : decode cX5_strike 17 = .ok (.bipush (-102), 2) := by decide +kernel
theorem dX5_strike_19 : decode cX5_strike 19 = .ok (.ireturn, 1) := by decide +kernel
theorem dX5_strike_20 : decode cX5_strike 20 = .ok (.aload_n 0, 1) := by decide +kernel
theorem dX5_strike_21 : decode cX5_strike 21 = .ok (.invokevirtual 134, 3) := by decide +kernel
theorem dX5_strike_24 : decode cX5_strike 24 = .ok (.ifCond .ne 6, 3) := by decide +kernel
theorem dX5_strike_27 : decode cX5_strike 27 = .ok (.bipush (-103), 2) := by decide +kernel
theorem dX5_strike_29 : decode cX5_strike 29 = .ok (.ireturn, 1) := by decide +kernel
theorem dX5_strike_30 : decode cX5_strike 30 = .ok (.aload_n 0, 1) := by decide +kernel
theorem dX5_strike_31 : decode cX5_strike 31 = .ok (.getfield 23, 3) := by decide +kernel
theorem dX5_strike_34 : decode cX5_strike 34 = .ok (.getfield 86, 3) := by decide +kernel
theorem dX5_strike_37 : decode cX5_strike 37 = .ok (.iload_n 1, 1) := by decide +kernel
theorem dX5_strike_38 : decode cX5_strike 38 = .ok (.iload_n 2, 1) := by decide +kernel
theorem dX5_strike_39 : decode cX5_strike 39 = .ok (.invokevirtual 90, 3) := by decide +kernel
theorem dX5_strike_42 : decode cX5_strike 42 = .ok (.ifCond .ne 6, 3) := by decide +kernel
theorem dX5_strike_45 : decode cX5_strike 45 = .ok (.bipush (-104), 2) := by decide +kernel
theorem dX5_strike_47 : decode cX5_strike 47 = .ok (.ireturn, 1) := by decide +kernel
theorem dX5_strike_48 : decode cX5_strike 48 = .ok (.aload_n 0, 1) := by decide +kernel
theorem dX5_strike_49 : decode cX5_strike 49 = .ok (.getfield 23, 3) := by decide +kernel
theorem dX5_strike_52 : decode cX5_strike 52 = .ok (.dup, 1) := by decide +kernel
theorem dX5_strike_53 : decode cX5_strike 53 = .ok (.getfield 128, 3) := by decide +kernel
theorem dX5_strike_56 : decode cX5_strike 56 = .ok (.iconst 1, 1) := by decide +kernel
theorem dX5_strike_57 : decode cX5_strike 57 = .ok (.iadd, 1) := by decide +kernel
theorem dX5_strike_58 : decode cX5_strike 58 = .ok (.putfield 128, 3) := by decide +kernel
theorem dX5_strike_61 : decode cX5_strike 61 = .ok (.aload_n 0, 1) := by decide +kernel
theorem dX5_strike_62 : decode cX5_strike 62 = .ok (.getfield 23, 3) := by decide +kernel
theorem dX5_strike_65 : decode cX5_strike 65 = .ok (.getfield 86, 3) := by decide +kernel
theorem dX5_strike_68 : decode cX5_strike 68 = .ok (.invokevirtual 141, 3) := by decide +kernel
theorem dX5_strike_71 : decode cX5_strike 71 = .ok (.iconst 1, 1) := by decide +kernel
theorem dX5_strike_72 : decode cX5_strike 72 = .ok (.isub, 1) := by decide +kernel
theorem dX5_strike_73 : decode cX5_strike 73 = .ok (.ireturn, 1) := by decide +kernel
set_option maxRecDepth 20000 in
theorem ggX5_felt_X3_has : GoodIn wsX5_felt wsX3_has := goodIn_r _ [8, 9, 10, 11, 12, 37, 38, 39] (by decide +kernel) (by decide +kernel)
set_option maxRecDepth 20000 in
theorem gX5_felt_X3_has : GoodIn wsX5_felt (wsV RX5 142 RX3 yX3_has wsX3_has) := goodIn_app (goodIn_of _ (by decide +kernel)) ggX5_felt_X3_has
set_option maxRecDepth 20000 in
theorem ggX5_felt_X5_isWithin : GoodIn wsX5_felt wsX5_isWithin := goodIn_r _ [12] (by decide +kernel) (by decide +kernel)
set_option maxRecDepth 20000 in
theorem gX5_felt_X5_isWithin : GoodIn wsX5_felt (va_wsS RX5 40 yX5_isWithin wsX5_isWithin) := goodIn_app (goodIn_of _ (by decide +kernel)) ggX5_felt_X5_isWithin
set_option maxRecDepth 20000 in
theorem ggX5_felt_X3_loud : GoodIn wsX5_felt wsX3_loud := goodIn_r _ [17, 18, 19, 5, 6, 7, 8, 9, 10, 11, 12, 37, 38, 39] (by decide +kernel) (by decide +kernel)
set_option maxRecDepth 20000 in
theorem gX5_felt_X3_loud : GoodIn wsX5_felt (wsV RX5 145 RX3 yX3_loud wsX3_loud) := goodIn_app (goodIn_of _ (by decide +kernel)) ggX5_felt_X3_loud
set_option maxRecDepth 20000 in
theorem ggX5_felt_X3_setLoud : GoodIn wsX5_felt wsX3_setLoud := goodIn_r _ [23, 18, 19, 5, 6, 7, 8, 9, 10, 11, 12, 37, 38, 39] (by decide +kernel) (by decide +kernel)
set_option maxRecDepth 20000 in
theorem gX5_felt_X3_setLoud : GoodIn wsX5_felt (wsV RX5 148 RX3 yX3_setLoud wsX3_setLoud) := goodIn_app (goodIn_of _ (by decide +kernel)) ggX5_felt_X3_setLoud
theorem dX5_felt_0 : decode cX5_felt 0 = .ok (.aload_n 0, 1) := by decide +kernel
theorem dX5_felt_1 : decode cX5_felt 1 = .ok (.getfield 23, 3) := by decide +kernel
theorem dX5_felt_4 : decode cX5_felt 4 = .ok (.getfield 86, 3) := by decide +kernel
theorem dX5_felt_7 : decode cX5_felt 7 = .ok (.iload_n 1, 1) := by decide +kernel
theorem dX5_felt_8 : decode cX5_felt 8 = .ok (.invokevirtual 142, 3) := by decide +kernel
theorem dX5_felt_11 : decode cX5_felt 11 = .ok (.ifCond .ne 6, 3) := by decide +kernel
theorem dX5_felt_14 : decode cX5_felt 14 = .ok (.bipush (-101), 2) := by decide +kernel
theorem dX5_felt_16 : decode cX5_felt 16 = .ok (.ireturn, 1) := by decide +kernel
theorem dX5_felt_17 : decode cX5_felt 17 = .ok (.iload_n 2, 1) := by decide +kernel
theorem dX5_felt_18 : decode cX5_felt 18 = .ok (.iconst 0, 1) := by decide +kernel
theorem dX5_felt_19 : decode cX5_felt 19 = .ok (.bipush 9, 2) := by decide +kernel
theorem dX5_felt_21 : decode cX5_felt 21 = .ok (.invokestatic 40, 3) := by decide +kernel
theorem dX5_felt_24 : decode cX5_felt 24 = .ok (.ifCond .ne 6, 3) := by decide +kernel
theorem dX5_felt_27 : decode cX5_felt 27 = .ok (.bipush (-102), 2) := by decide +kernel
theorem dX5_felt_29 : decode cX5_felt 29 = .ok (.ireturn, 1) := by decide +kernel
theorem dX5_felt_30 : decode cX5_felt 30 = .ok (.aload_n 0, 1) := by decide +kernel
theorem dX5_felt_31 : decode cX5_felt 31 = .ok (.getfield 23, 3) := by decide +kernel
theorem dX5_felt_34 : decode cX5_felt 34 = .ok (.getfield 86, 3) := by decide +kernel
theorem dX5_felt_37 : decode cX5_felt 37 = .ok (.iload_n 1, 1) := by decide +kernel
theorem dX5_felt_38 : decode cX5_felt 38 = .ok (.invokevirtual 145, 3) := by decide +kernel
theorem dX5_felt_41 : decode cX5_felt 41 = .ok (.istore_n 3, 1) := by decide +kernel
theorem dX5_felt_42 : decode cX5_felt 42 = .ok (.aload_n 0, 1) := by decide +kernel
theorem dX5_felt_43 : decode cX5_felt 43 = .ok (.getfield 23, 3) := by decide +kernel
theorem dX5_felt_46 : decode cX5_felt 46 = .ok (.getfield 86, 3) := by decide +kernel
theorem dX5_felt_49 : decode cX5_felt 49 = .ok (.iload_n 1, 1) := by decide +kernel
theorem dX5_felt_50 : decode cX5_felt 50 = .ok (.iload_n 2, 1) := by decide +kernel
theorem dX5_felt_51 : decode cX5_felt 51 = .ok (.invokevirtual 148, 3) := by decide +kernel
theorem dX5_felt_54 : decode cX5_felt 54 = .ok (.aload_n 0, 1) := by decide +kernel
theorem dX5_felt_55 : decode cX5_felt 55 = .ok (.getfield 23, 3) := by decide +kernel
theorem dX5_felt_58 : decode cX5_felt 58 = .ok (.dup, 1) := by decide +kernel
theorem dX5_felt_59 : decode cX5_felt 59 = .ok (.getfield 128, 3) := by decide +kernel
theorem dX5_felt_62 : decode cX5_felt 62 = .ok (.iconst 1, 1) := by decide +kernel
theorem dX5_felt_63 : decode cX5_felt 63 = .ok (.iadd, 1) := by decide +kernel
theorem dX5_felt_64 : decode cX5_felt 64 = .ok (.putfield 128, 3) := by decide +kernel
theorem dX5_felt_67 : decode cX5_felt 67 = .ok (.iload_n 3, 1) := by decide +kernel
theorem dX5_felt_68 : decode cX5_felt 68 = .ok (.ireturn, 1) := by decide +kernel
set_option maxRecDepth 20000 in
theorem ggX5_stroke_X3_has : GoodIn wsX5_stroke wsX3_has := goodIn_r _ [7, 8, 9, 10, 11, 42, 43, 44] (by decide +kernel) (by decide +kernel)
set_option maxRecDepth 20000 in
theorem gX5_stroke_X3_has : GoodIn wsX5_stroke (wsV RX5 142 RX3 yX3_has wsX3_has) := goodIn_app (goodIn_of _ (by decide +kernel)) ggX5_stroke_X3_has
set_option maxRecDepth 20000 in
theorem ggX5_stroke_X3_hour : GoodIn wsX5_stroke wsX3_hour := goodIn_r _ [15, 16, 17, 4, 5, 6, 7, 8, 9, 10, 11, 42, 43, 44] (by decide +kernel) (by decide +kernel)
set_option maxRecDepth 20000 in
theorem gX5_stroke_X3_hour : GoodIn wsX5_stroke (wsV RX5 151 RX3 yX3_hour wsX3_hour) := goodIn_app (goodIn_of _ (by decide +kernel)) ggX5_stroke_X3_hour
set_option maxRecDepth 20000 in
theorem ggX5_stroke_X3_loud : GoodIn wsX5_stroke wsX3_loud := goodIn_r _ [21, 22, 17, 4, 5, 6, 7, 8, 9, 10, 11, 42, 43, 44] (by decide +kernel) (by decide +kernel)
set_option maxRecDepth 20000 in
theorem gX5_stroke_X3_loud : GoodIn wsX5_stroke (wsV RX5 145 RX3 yX3_loud wsX3_loud) := goodIn_app (goodIn_of _ (by decide +kernel)) ggX5_stroke_X3_loud
set_option maxRecDepth 20000 in
theorem ggX5_stroke_X3_goneAt : GoodIn wsX5_stroke wsX3_goneAt := goodIn_r _ [26, 27, 13, 14, 6, 15, 16, 17, 4, 5, 7, 8, 9, 10, 11, 28, 19, 20, 21, 22, 42, 43, 44] (by decide +kernel) (by decide +kernel)
set_option maxRecDepth 20000 in
theorem gX5_stroke_X3_goneAt : GoodIn wsX5_stroke (wsV RX5 154 RX3 yX3_goneAt wsX3_goneAt) := goodIn_app (goodIn_of _ (by decide +kernel)) ggX5_stroke_X3_goneAt
theorem dX5_stroke_0 : decode cX5_stroke 0 = .ok (.aload_n 0, 1) := by decide +kernel
theorem dX5_stroke_1 : decode cX5_stroke 1 = .ok (.getfield 23, 3) := by decide +kernel
theorem dX5_stroke_4 : decode cX5_stroke 4 = .ok (.getfield 86, 3) := by decide +kernel
theorem dX5_stroke_7 : decode cX5_stroke 7 = .ok (.iload_n 1, 1) := by decide +kernel
theorem dX5_stroke_8 : decode cX5_stroke 8 = .ok (.invokevirtual 142, 3) := by decide +kernel
theorem dX5_stroke_11 : decode cX5_stroke 11 = .ok (.ifCond .ne 6, 3) := by decide +kernel
theorem dX5_stroke_14 : decode cX5_stroke 14 = .ok (.bipush (-101), 2) := by decide +kernel
theorem dX5_stroke_16 : decode cX5_stroke 16 = .ok (.ireturn, 1) := by decide +kernel
theorem dX5_stroke_17 : decode cX5_stroke 17 = .ok (.iload_n 2, 1) := by decide +kernel
theorem dX5_stroke_18 : decode cX5_stroke 18 = .ok (.tableswitch 62 0 2 #[26, 38, 50], 26) := by decide +kernel
theorem dX5_stroke_44 : decode cX5_stroke 44 = .ok (.aload_n 0, 1) := by decide +kernel
theorem dX5_stroke_45 : decode cX5_stroke 45 = .ok (.getfield 23, 3) := by decide +kernel
theorem dX5_stroke_48 : decode cX5_stroke 48 = .ok (.getfield 86, 3) := by decide +kernel
theorem dX5_stroke_51 : decode cX5_stroke 51 = .ok (.iload_n 1, 1) := by decide +kernel
theorem dX5_stroke_52 : decode cX5_stroke 52 = .ok (.invokevirtual 151, 3) := by decide +kernel
theorem dX5_stroke_55 : decode cX5_stroke 55 = .ok (.ireturn, 1) := by decide +kernel
theorem dX5_stroke_56 : decode cX5_stroke 56 = .ok (.aload_n 0, 1) := by decide +kernel
theorem dX5_stroke_57 : decode cX5_stroke 57 = .ok (.getfield 23, 3) := by decide +kernel
theorem dX5_stroke_60 : decode cX5_stroke 60 = .ok (.getfield 86, 3) := by decide +kernel
theorem dX5_stroke_63 : decode cX5_stroke 63 = .ok (.iload_n 1, 1) := by decide +kernel
theorem dX5_stroke_64 : decode cX5_stroke 64 = .ok (.invokevirtual 145, 3) := by decide +kernel
theorem dX5_stroke_67 : decode cX5_stroke 67 = .ok (.ireturn, 1) := by decide +kernel
theorem dX5_stroke_68 : decode cX5_stroke 68 = .ok (.aload_n 0, 1) := by decide +kernel
theorem dX5_stroke_69 : decode cX5_stroke 69 = .ok (.getfield 23, 3) := by decide +kernel
theorem dX5_stroke_72 : decode cX5_stroke 72 = .ok (.getfield 86, 3) := by decide +kernel
theorem dX5_stroke_75 : decode cX5_stroke 75 = .ok (.iload_n 1, 1) := by decide +kernel
theorem dX5_stroke_76 : decode cX5_stroke 76 = .ok (.invokevirtual 154, 3) := by decide +kernel
theorem dX5_stroke_79 : decode cX5_stroke 79 = .ok (.ireturn, 1) := by decide +kernel
theorem dX5_stroke_80 : decode cX5_stroke 80 = .ok (.bipush (-102), 2) := by decide +kernel
theorem dX5_stroke_82 : decode cX5_stroke 82 = .ok (.ireturn, 1) := by decide +kernel
set_option maxRecDepth 20000 in
theorem ggX5_dinner_X5_allHouses : GoodIn wsX5_dinner wsX5_allHouses := goodIn_r _ [5, 6, 85, 86, 87, 88, 89, 90, 91, 92, 93] (by decide +kernel) (by decide +kernel)
set_option maxRecDepth 20000 in
theorem gX5_dinner_X5_allHouses : GoodIn wsX5_dinner (wsV RX5 157 RX5 yX5_allHouses wsX5_allHouses) := goodIn_app (goodIn_of _ (by decide +kernel)) ggX5_dinner_X5_allHouses
set_option maxRecDepth 20000 in
theorem ggX5_dinner_X5_isWithin : GoodIn wsX5_dinner wsX5_isWithin := goodIn_r _ [9] (by decide +kernel) (by decide +kernel)
set_option maxRecDepth 20000 in
theorem gX5_dinner_X5_isWithin : GoodIn wsX5_dinner (va_wsS RX5 40 yX5_isWithin wsX5_isWithin) := goodIn_app (goodIn_of _ (by decide +kernel)) ggX5_dinner_X5_isWithin
set_option maxRecDepth 20000 in
theorem ggX5_dinner_X5_tideNow : GoodIn wsX5_dinner wsX5_tideNow := goodIn_r _ [13, 14, 15, 16, 17, 18, 19, 20, 21, 22, 23, 24, 25, 26, 27, 28, 29, 30, 31, 32, 33, 34, 35, 36, 37, 8, 4, 9, 38, 39, 40, 41, 42, 43, 44, 45, 46, 47, 48, 49, 50, 85, 86, 87, 88, 89, 90, 91, 92, 93, 94, 95, 96, 97, 98, 99, 100, 101] (by decide +kernel) (by decide +kernel)
set_option maxRecDepth 20000 in
theorem gX5_dinner_X5_tideNow : GoodIn wsX5_dinner (wsV RX5 106 RX5 yX5_tideNow wsX5_tideNow) := goodIn_app (goodIn_of _ (by decide +kernel)) ggX5_dinner_X5_tideNow
set_option maxRecDepth 20000 in
theorem ggX5_dinner_X5_canDine : GoodIn wsX5_dinner wsX5_canDine := goodIn_r _ [54, 6, 55, 56, 57, 4, 58, 15, 59, 48, 49, 50, 60, 61, 62, 63, 64, 65, 66, 67, 68, 8, 9, 69, 70, 71, 72, 73, 7, 74, 75, 76, 20, 77, 22, 78, 79, 80, 81, 82, 83, 84, 85, 86, 87, 88, 89, 90, 91, 92, 93, 94, 95, 96, 97, 98] (by decide +kernel) (by decide +kernel)
set_option maxRecDepth 20000 in
theorem gX5_dinner_X5_canDine : GoodIn wsX5_dinner (wsV RX5 160 RX5 yX5_canDine wsX5_canDine) := goodIn_app (goodIn_of _ (by decide +kernel)) ggX5_dinner_X5_canDine
theorem dX5_dinner_0 : decode cX5_dinner 0 = .ok (.iload_n 1, 1) := by decide +kernel
theorem dX5_dinner_1 : decode cX5_dinner 1 = .ok (.iconst 1, 1) := by decide +kernel
theorem dX5_dinner_2 : decode cX5_dinner 2 = .ok (.aload_n 0, 1) := by decide +kernel
theorem dX5_dinner_3 : decode cX5_dinner 3 = .ok (.invokevirtual 157, 3) := by decide +kernel
theorem dX5_dinner_6 : decode cX5_dinner 6 = .ok (.invokestatic 40, 3) := by decide +kernel
theorem dX5_dinner_9 : decode cX5_dinner 9 = .ok (.ifCond .eq 13, 3) := by decide +kernel
theorem dX5_dinner_12 : decode cX5_dinner 12 = .ok (.iload_n 2, 1) := by decide +kernel
theorem dX5_dinner_13 : decode cX5_dinner 13 = .ok (.iconst 1, 1) := by decide +kernel
theorem dX5_dinner_14 : decode cX5_dinner 14 = .ok (.bipush 6, 2) := by decide +kernel
theorem dX5_dinner_16 : decode cX5_dinner 16 = .ok (.invokestatic 40, 3) := by decide +kernel
theorem dX5_dinner_19 : decode cX5_dinner 19 = .ok (.ifCond .ne 6, 3) := by decide +kernel
theorem dX5_dinner_22 : decode cX5_dinner 22 = .ok (.bipush (-102), 2) := by decide +kernel
theorem dX5_dinner_24 : decode cX5_dinner 24 = .ok (.ireturn, 1) := by decide +kernel
theorem dX5_dinner_25 : decode cX5_dinner 25 = .ok (.aload_n 0, 1) := by decide +kernel
theorem dX5_dinner_26 : decode cX5_dinner 26 = .ok (.invokevirtual 106, 3) := by decide +kernel
theorem dX5_dinner_29 : decode cX5_dinner 29 = .ok (.astore_n 3, 1) := by decide +kernel
theorem dX5_dinner_30 : decode cX5_dinner 30 = .ok (.iconst 0, 1) := by decide +kernel
theorem dX5_dinner_31 : decode cX5_dinner 31 = .ok (.istore 4, 2) := by decide +kernel
theorem dX5_dinner_33 : decode cX5_dinner 33 = .ok (.iload 4, 2) := by decide +kernel
theorem dX5_dinner_35 : decode cX5_dinner 35 = .ok (.iload_n 2, 1) := by decide +kernel
theorem dX5_dinner_36 : decode cX5_dinner 36 = .ok (.iadd, 1) := by decide +kernel
theorem dX5_dinner_37 : decode cX5_dinner 37 = .ok (.bipush 12, 2) := by decide +kernel
theorem dX5_dinner_39 : decode cX5_dinner 39 = .ok (.if_icmp .gt 27, 3) := by decide +kernel
theorem dX5_dinner_42 : decode cX5_dinner 42 = .ok (.aload_n 0, 1) := by decide +kernel
theorem dX5_dinner_43 : decode cX5_dinner 43 = .ok (.iload_n 1, 1) := by decide +kernel
theorem dX5_dinner_44 : decode cX5_dinner 44 = .ok (.aload_n 3, 1) := by decide +kernel
theorem dX5_dinner_45 : decode cX5_dinner 45 = .ok (.iload 4, 2) := by decide +kernel
theorem dX5_dinner_47 : decode cX5_dinner 47 = .ok (.iload 4, 2) := by decide +kernel
theorem dX5_dinner_49 : decode cX5_dinner 49 = .ok (.iload_n 2, 1) := by decide +kernel
theorem dX5_dinner_50 : decode cX5_dinner 50 = .ok (.iadd, 1) := by decide +kernel
theorem dX5_dinner_51 : decode cX5_dinner 51 = .ok (.invokevirtual 160, 3) := by decide +kernel
theorem dX5_dinner_54 : decode cX5_dinner 54 = .ok (.ifCond .eq 6, 3) := by decide +kernel
theorem dX5_dinner_57 : decode cX5_dinner 57 = .ok (.iload 4, 2) := by decide +kernel
theorem dX5_dinner_59 : decode cX5_dinner 59 = .ok (.ireturn, 1) := by decide +kernel
theorem dX5_dinner_60 : decode cX5_dinner 60 = .ok (.iinc 4 1, 3) := by decide +kernel
theorem dX5_dinner_63 : decode cX5_dinner 63 = .ok (.goto (-30), 3) := by decide +kernel
theorem dX5_dinner_66 : decode cX5_dinner 66 = .ok (.iconst (-1), 1) := by decide +kernel
theorem dX5_dinner_67 : decode cX5_dinner 67 = .ok (.ireturn, 1) := by decide +kernel
set_option maxRecDepth 20000 in
theorem ggX5_best_X5_isHeardLoud : GoodIn wsX5_best wsX5_isHeardLoud := goodIn_r _ [5, 6, 7, 4, 8] (by decide +kernel) (by decide +kernel)
set_option maxRecDepth 20000 in
theorem gX5_best_X5_isHeardLoud : GoodIn wsX5_best (va_wsS RX5 138 yX5_isHeardLoud wsX5_isHeardLoud) := goodIn_app (goodIn_of _ (by decide +kernel)) ggX5_best_X5_isHeardLoud
set_option maxRecDepth 20000 in
theorem ggX5_best_X5_isWithin : GoodIn wsX5_best wsX5_isWithin := goodIn_r _ [8] (by decide +kernel) (by decide +kernel)
set_option maxRecDepth 20000 in
theorem gX5_best_X5_isWithin : GoodIn wsX5_best (va_wsS RX5 40 yX5_isWithin wsX5_isWithin) := goodIn_app (goodIn_of _ (by decide +kernel)) ggX5_best_X5_isWithin
set_option maxRecDepth 20000 in
theorem ggX5_best_X5_hasColony : GoodIn wsX5_best wsX5_hasColony := goodIn_r _ [12, 1, 101, 102, 103, 104, 105, 106, 107, 108, 109] (by decide +kernel) (by decide +kernel)
set_option maxRecDepth 20000 in
theorem gX5_best_X5_hasColony : GoodIn wsX5_best (wsV RX5 134 RX5 yX5_hasColony wsX5_hasColony) := goodIn_app (goodIn_of _ (by decide +kernel)) ggX5_best_X5_hasColony
set_option maxRecDepth 20000 in
theorem ggX5_best_X5_tideNow : GoodIn wsX5_best wsX5_tideNow := goodIn_r _ [16, 17, 18, 19, 20, 21, 22, 23, 24, 25, 26, 27, 28, 29, 30, 31, 32, 33, 34, 35, 36, 37, 38, 39, 40, 7, 4, 8, 41, 42, 43, 44, 45, 46, 47, 48, 49, 50, 51, 52, 53, 101, 102, 103, 104, 105, 106, 107, 108, 109, 110, 111, 112, 113, 114, 115, 116, 117] (by decide +kernel) (by decide +kernel)
set_option maxRecDepth 20000 in
theorem gX5_best_X5_tideNow : GoodIn wsX5_best (wsV RX5 106 RX5 yX5_tideNow wsX5_tideNow) := goodIn_app (goodIn_of _ (by decide +kernel)) ggX5_best_X5_tideNow
set_option maxRecDepth 20000 in
theorem ggX5_best_X5_suppose : GoodIn wsX5_best wsX5_suppose := goodIn_r _ [57, 58, 59, 60, 61, 23, 62, 25, 46, 47, 48, 49, 50, 51, 52, 53, 101, 102, 103, 104, 105, 106, 107, 108, 109, 114] (by decide +kernel) (by decide +kernel)
set_option maxRecDepth 20000 in
theorem gX5_best_X5_suppose : GoodIn wsX5_best (wsV RX5 164 RX5 yX5_suppose wsX5_suppose) := goodIn_app (goodIn_of _ (by decide +kernel)) ggX5_best_X5_suppose
set_option maxRecDepth 20000 in
theorem ggX5_best_X5_hoursOfAll : GoodIn wsX5_best wsX5_hoursOfAll := goodIn_r _ [66, 1, 67, 68, 69, 4, 70, 71, 72, 73, 74, 18, 75, 51, 52, 53, 76, 77, 78, 79, 80, 81, 82, 83, 84, 7, 8, 85, 86, 87, 88, 89, 6, 90, 91, 92, 23, 93, 25, 94, 95, 96, 97, 98, 99, 100, 101, 102, 103, 104, 105, 106, 107, 108, 109, 110, 111, 112, 113, 114] (by decide +kernel) (by decide +kernel)
set_option maxRecDepth 20000 in
theorem gX5_best_X5_hoursOfAll : GoodIn wsX5_best (wsV RX5 168 RX5 yX5_hoursOfAll wsX5_hoursOfAll) := goodIn_app (goodIn_of _ (by decide +kernel)) ggX5_best_X5_hoursOfAll
theorem dX5_best_0 : decode cX5_best 0 = .ok (.iload_n 1, 1) := by decide +kernel
theorem dX5_best_1 : decode cX5_best 1 = .ok (.invokestatic 138, 3) := by decide +kernel
theorem dX5_best_4 : decode cX5_best 4 = .ok (.ifCond .eq 12, 3) := by decide +kernel
theorem dX5_best_7 : decode cX5_best 7 = .ok (.iload_n 2, 1) := by decide +kernel
theorem dX5_best_8 : decode cX5_best 8 = .ok (.iconst 0, 1) := by decide +kernel
theorem dX5_best_9 : decode cX5_best 9 = .ok (.iconst 1, 1) := by decide +kernel
theorem dX5_best_10 : decode cX5_best 10 = .ok (.invokestatic 40, 3) := by decide +kernel
theorem dX5_best_13 : decode cX5_best 13 = .ok (.ifCond .ne 6, 3) := by decide +kernel
theorem dX5_best_16 : decode cX5_best 16 = .ok (.bipush (-102), 2) := by decide +kernel
theorem dX5_best_18 : decode cX5_best 18 = .ok (.ireturn, 1) := by decide +kernel
theorem dX5_best_19 : decode cX5_best 19 = .ok (.aload_n 0, 1) := by decide +kernel
theorem dX5_best_20 : decode cX5_best 20 = .ok (.invokevirtual 134, 3) := by decide +kernel
theorem dX5_best_23 : decode cX5_best 23 = .ok (.ifCond .ne 6, 3) := by decide +kernel
theorem dX5_best_26 : decode cX5_best 26 = .ok (.bipush (-103), 2) := by decide +kernel
theorem dX5_best_28 : decode cX5_best 28 = .ok (.ireturn, 1) := by decide +kernel
theorem dX5_best_29 : decode cX5_best 29 = .ok (.aload_n 0, 1) := by decide +kernel
theorem dX5_best_30 : decode cX5_best 30 = .ok (.invokevirtual 106, 3) := by decide +kernel
theorem dX5_best_33 : decode cX5_best 33 = .ok (.astore_n 3, 1) := by decide +kernel
theorem dX5_best_34 : decode cX5_best 34 = .ok (.iconst (-1), 1) := by decide +kernel
theorem dX5_best_35 : decode cX5_best 35 = .ok (.istore 4, 2) := by decide +kernel
theorem dX5_best_37 : decode cX5_best 37 = .ok (.iconst (-1), 1) := by decide +kernel
theorem dX5_best_38 : decode cX5_best 38 = .ok (.istore 5, 2) := by decide +kernel
theorem dX5_best_40 : decode cX5_best 40 = .ok (.iconst 0, 1) := by decide +kernel
theorem dX5_best_41 : decode cX5_best 41 = .ok (.istore 6, 2) := by decide +kernel
theorem dX5_best_43 : decode cX5_best 43 = .ok (.iload 6, 2) := by decide +kernel
theorem dX5_best_45 : decode cX5_best 45 = .ok (.bipush 10, 2) := by decide +kernel
theorem dX5_best_47 : decode cX5_best 47 = .ok (.if_icmp .ge 47, 3) := by decide +kernel
theorem dX5_best_50 : decode cX5_best 50 = .ok (.bipush 12, 2) := by decide +kernel
theorem dX5_best_52 : decode cX5_best 52 = .ok (.aload_n 0, 1) := by decide +kernel
theorem dX5_best_53 : decode cX5_best 53 = .ok (.getfield 65, 3) := by decide +kernel
theorem dX5_best_56 : decode cX5_best 56 = .ok (.imul, 1) := by decide +kernel
theorem dX5_best_57 : decode cX5_best 57 = .ok (.aload_n 0, 1) := by decide +kernel
theorem dX5_best_58 : decode cX5_best 58 = .ok (.iconst 0, 1) := by decide +kernel
theorem dX5_best_59 : decode cX5_best 59 = .ok (.aload_n 0, 1) := by decide +kernel
theorem dX5_best_60 : decode cX5_best 60 = .ok (.aload_n 3, 1) := by decide +kernel
theorem dX5_best_61 : decode cX5_best 61 = .ok (.iload 6, 2) := by decide +kernel
theorem dX5_best_63 : decode cX5_best 63 = .ok (.iload_n 1, 1) := by decide +kernel
theorem dX5_best_64 : decode cX5_best 64 = .ok (.invokevirtual 164, 3) := by decide +kernel
theorem dX5_best_67 : decode cX5_best 67 = .ok (.invokevirtual 168, 3) := by decide +kernel
theorem dX5_best_70 : decode cX5_best 70 = .ok (.isub, 1) := by decide +kernel
theorem dX5_best_71 : decode cX5_best 71 = .ok (.istore 7, 2) := by decide +kernel
theorem dX5_best_73 : decode cX5_best 73 = .ok (.iload 7, 2) := by decide +kernel
theorem dX5_best_75 : decode cX5_best 75 = .ok (.iload 5, 2) := by decide +kernel
theorem dX5_best_77 : decode cX5_best 77 = .ok (.if_icmp .le 11, 3) := by decide +kernel
theorem dX5_best_80 : decode cX5_best 80 = .ok (.iload 7, 2) := by decide +kernel
theorem dX5_best_82 : decode cX5_best 82 = .ok (.istore 5, 2) := by decide +kernel
theorem dX5_best_84 : decode cX5_best 84 = .ok (.iload 6, 2) := by decide +kernel
theorem dX5_best_86 : decode cX5_best 86 = .ok (.istore 4, 2) := by decide +kernel
theorem dX5_best_88 : decode cX5_best 88 = .ok (.iinc 6 1, 3) := by decide +kernel
theorem dX5_best_91 : decode cX5_best 91 = .ok (.goto (-48), 3) := by decide +kernel
theorem dX5_best_94 : decode cX5_best 94 = .ok (.iload_n 2, 1) := by decide +kernel
theorem dX5_best_95 : decode cX5_best 95 = .ok (.ifCond .ne 8, 3) := by decide +kernel
theorem dX5_best_98 : decode cX5_best 98 = .ok (.iload 4, 2) := by decide +kernel
theorem dX5_best_100 : decode cX5_best 100 = .ok (.goto 5, 3) := by decide +kernel
theorem dX5_best_103 : decode cX5_best 103 = .ok (.iload 5, 2) := by decide +kernel
theorem dX5_best_105 : decode cX5_best 105 = .ok (.ireturn, 1) := by decide +kernel
set_option maxRecDepth 20000 in
theorem ggX5_hear_X5_isHouse : GoodIn wsX5_hear wsX5_isHouse := goodIn_r _ [7, 8, 9, 10, 6, 11, 32, 33, 34, 35, 36, 37, 38, 39, 40] (by decide +kernel) (by decide +kernel)
set_option maxRecDepth 20000 in
theorem gX5_hear_X5_isHouse : GoodIn wsX5_hear (wsV RX5 103 RX5 yX5_isHouse wsX5_isHouse) := goodIn_app (goodIn_of _ (by decide +kernel)) ggX5_hear_X5_isHouse
set_option maxRecDepth 20000 in
theorem ggX5_hear_X5_isHourOfDay : GoodIn wsX5_hear wsX5_isHourOfDay := goodIn_r _ [14, 9, 10, 6, 11] (by decide +kernel) (by decide +kernel)
set_option maxRecDepth 20000 in
theorem gX5_hear_X5_isHourOfDay : GoodIn wsX5_hear (va_wsS RX5 131 yX5_isHourOfDay wsX5_isHourOfDay) := goodIn_app (goodIn_of _ (by decide +kernel)) ggX5_hear_X5_isHourOfDay
set_option maxRecDepth 20000 in
theorem ggX5_hear_X5_isHeardLoud : GoodIn wsX5_hear wsX5_isHeardLoud := goodIn_r _ [17, 9, 10, 6, 11] (by decide +kernel) (by decide +kernel)
set_option maxRecDepth 20000 in
theorem gX5_hear_X5_isHeardLoud : GoodIn wsX5_hear (va_wsS RX5 138 yX5_isHeardLoud wsX5_isHeardLoud) := goodIn_app (goodIn_of _ (by decide +kernel)) ggX5_hear_X5_isHeardLoud
set_option maxRecDepth 20000 in
theorem ggX5_hear_X5_isWithin : GoodIn wsX5_hear wsX5_isWithin := goodIn_r _ [11] (by decide +kernel) (by decide +kernel)
set_option maxRecDepth 20000 in
theorem gX5_hear_X5_isWithin : GoodIn wsX5_hear (va_wsS RX5 40 yX5_isWithin wsX5_isWithin) := goodIn_app (goodIn_of _ (by decide +kernel)) ggX5_hear_X5_isWithin
set_option maxRecDepth 20000 in
theorem ggX5_hear_X1_add : GoodIn wsX5_hear wsX1_add := goodIn_r _ [22, 23, 24, 25, 26, 27, 45, 46, 47, 48, 49] (by decide +kernel) (by decide +kernel)
set_option maxRecDepth 20000 in
theorem gX5_hear_X1_add : GoodIn wsX5_hear (wsV RX5 175 RX1 yX1_add wsX1_add) := goodIn_app (goodIn_of _ (by decide +kernel)) ggX5_hear_X1_add
set_option maxRecDepth 20000 in
theorem ggX5_hear_X1_size : GoodIn wsX5_hear wsX1_size := goodIn_r _ [31, 23, 45, 46, 47, 48, 49] (by decide +kernel) (by decide +kernel)
set_option maxRecDepth 20000 in
theorem gX5_hear_X1_size : GoodIn wsX5_hear (wsV RX5 180 RX1 yX1_size wsX1_size) := goodIn_app (goodIn_of _ (by decide +kernel)) ggX5_hear_X1_size
theorem dX5_hear_0 : decode cX5_hear 0 = .ok (.aload_n 0, 1) := by decide +kernel
theorem dX5_hear_1 : decode cX5_hear 1 = .ok (.iload_n 1, 1) := by decide +kernel
theorem dX5_hear_2 : decode cX5_hear 2 = .ok (.invokevirtual 103, 3) := by decide +kernel
theorem dX5_hear_5 : decode cX5_hear 5 = .ok (.ifCond .ne 6, 3) := by decide +kernel
theorem dX5_hear_8 : decode cX5_hear 8 = .ok (.bipush (-101), 2) := by decide +kernel
theorem dX5_hear_10 : decode cX5_hear 10 = .ok (.ireturn, 1) := by decide +kernel
theorem dX5_hear_11 : decode cX5_hear 11 = .ok (.iload_n 2, 1) := by decide +kernel
theorem dX5_hear_12 : decode cX5_hear 12 = .ok (.invokestatic 131, 3) := by decide +kernel
theorem dX5_hear_15 : decode cX5_hear 15 = .ok (.ifCond .eq 20, 3) := by decide +kernel
theorem dX5_hear_18 : decode cX5_hear 18 = .ok (.iload_n 3, 1) := by decide +kernel
theorem dX5_hear_19 : decode cX5_hear 19 = .ok (.invokestatic 138, 3) := by decide +kernel
theorem dX5_hear_22 : decode cX5_hear 22 = .ok (.ifCond .eq 13, 3) := by decide +kernel
theorem dX5_hear_25 : decode cX5_hear 25 = .ok (.iload 4, 2) := by decide +kernel
theorem dX5_hear_27 : decode cX5_hear 27 = .ok (.iconst 0, 1) := by decide +kernel
theorem dX5_hear_28 : decode cX5_hear 28 = .ok (.iconst 2, 1) := by decide +kernel
theorem dX5_hear_29 : decode cX5_hear 29 = .ok (.invokestatic 40, 3) := by decide +kernel
theorem dX5_hear_32 : decode cX5_hear 32 = .ok (.ifCond .ne 6, 3) := by decide +kernel
theorem dX5_hear_35 : decode cX5_hear 35 = .ok (.bipush (-102), 2) := by decide +kernel
theorem dX5_hear_37 : decode cX5_hear 37 = .ok (.ireturn, 1) := by decide +kernel
theorem dX5_hear_38 : decode cX5_hear 38 = .ok (.aload_n 0, 1) := by decide +kernel
theorem dX5_hear_39 : decode cX5_hear 39 = .ok (.getfield 23, 3) := by decide +kernel
theorem dX5_hear_42 : decode cX5_hear 42 = .ok (.getfield 171, 3) := by decide +kernel
theorem dX5_hear_45 : decode cX5_hear 45 = .ok (.iload_n 1, 1) := by decide +kernel
theorem dX5_hear_46 : decode cX5_hear 46 = .ok (.iload_n 2, 1) := by decide +kernel
theorem dX5_hear_47 : decode cX5_hear 47 = .ok (.iload_n 3, 1) := by decide +kernel
theorem dX5_hear_48 : decode cX5_hear 48 = .ok (.iload 4, 2) := by decide +kernel
theorem dX5_hear_50 : decode cX5_hear 50 = .ok (.invokevirtual 175, 3) := by decide +kernel
theorem dX5_hear_53 : decode cX5_hear 53 = .ok (.ifCond .eq 16, 3) := by decide +kernel
theorem dX5_hear_56 : decode cX5_hear 56 = .ok (.aload_n 0, 1) := by decide +kernel
theorem dX5_hear_57 : decode cX5_hear 57 = .ok (.getfield 23, 3) := by decide +kernel
theorem dX5_hear_60 : decode cX5_hear 60 = .ok (.getfield 171, 3) := by decide +kernel
theorem dX5_hear_63 : decode cX5_hear 63 = .ok (.invokevirtual 180, 3) := by decide +kernel
theorem dX5_hear_66 : decode cX5_hear 66 = .ok (.goto 5, 3) := by decide +kernel
theorem dX5_hear_69 : decode cX5_hear 69 = .ok (.bipush (-104), 2) := by decide +kernel
theorem dX5_hear_71 : decode cX5_hear 71 = .ok (.ireturn, 1) := by decide +kernel
set_option maxRecDepth 20000 in
theorem ggX5_forget_X1_clear : GoodIn wsX5_forget wsX1_clear := goodIn_r _ [7, 8, 22, 23, 24, 25, 26] (by decide +kernel) (by decide +kernel)
set_option maxRecDepth 20000 in
theorem gX5_forget_X1_clear : GoodIn wsX5_forget (wsV RX5 181 RX1 yX1_clear wsX1_clear) := goodIn_app (goodIn_of _ (by decide +kernel)) ggX5_forget_X1_clear
theorem dX5_forget_0 : decode cX5_forget 0 = .ok (.aload_n 0, 1) := by decide +kernel
theorem dX5_forget_1 : decode cX5_forget 1 = .ok (.getfield 23, 3) := by decide +kernel
theorem dX5_forget_4 : decode cX5_forget 4 = .ok (.getfield 171, 3) := by decide +kernel
theorem dX5_forget_7 : decode cX5_forget 7 = .ok (.invokevirtual 181, 3) := by decide +kernel
theorem dX5_forget_10 : decode cX5_forget 10 = .ok (.ireturn, 1) := by decide +kernel
set_option maxRecDepth 20000 in
theorem ggX5_hours_X5_hasColony : GoodIn wsX5_hours wsX5_hasColony := goodIn_r _ [5, 6, 125, 126, 127, 128, 129, 130, 131, 132, 133] (by decide +kernel) (by decide +kernel)
set_option maxRecDepth 20000 in
theorem gX5_hours_X5_hasColony : GoodIn wsX5_hours (wsV RX5 134 RX5 yX5_hasColony wsX5_hasColony) := goodIn_app (goodIn_of _ (by decide +kernel)) ggX5_hours_X5_hasColony
set_option maxRecDepth 20000 in
theorem ggX5_hours_X5_tideNow : GoodIn wsX5_hours wsX5_tideNow := goodIn_r _ [10, 11, 12, 13, 14, 15, 16, 17, 18, 19, 20, 21, 22, 23, 24, 25, 26, 27, 28, 29, 30, 31, 32, 33, 34, 35, 4, 36, 37, 38, 39, 40, 41, 42, 43, 44, 45, 46, 47, 48, 49, 125, 126, 127, 128, 129, 130, 131, 132, 133, 134, 135, 136, 137, 138, 139, 140, 141] (by decide +kernel) (by decide +kernel)
set_option maxRecDepth 20000 in
theorem gX5_hours_X5_tideNow : GoodIn wsX5_hours (wsV RX5 106 RX5 yX5_tideNow wsX5_tideNow) := goodIn_app (goodIn_of _ (by decide +kernel)) ggX5_hours_X5_tideNow
set_option maxRecDepth 20000 in
theorem ggX5_hours_X5_agreesWithHeard : GoodIn wsX5_hours wsX5_agreesWithHeard := goodIn_r _ [53, 12, 54, 55, 56, 57, 58, 59, 60, 61, 62, 63, 64, 65, 66, 67, 68, 69, 35, 4, 36, 70, 71, 72, 73, 74, 75, 76, 77, 17, 78, 19, 42, 43, 44, 45, 46, 47, 48, 49, 79, 80, 81, 82, 83, 84, 85, 86, 87, 88, 89, 90, 91, 92, 93, 94, 95, 96, 97, 98, 99, 100, 101, 102, 103, 104, 105, 106, 107, 108, 109, 110, 111, 112, 113, 114, 115, 116, 117, 118, 119, 120, 121, 122, 123, 124, 125, 126, 127, 128, 129, 130, 131, 132, 133, 134, 135, 136, 137, 142, 143, 144, 145, 146, 138] (by decide +kernel) (by decide +kernel)
set_option maxRecDepth 20000 in
theorem gX5_hours_X5_agreesWithHeard : GoodIn wsX5_hours (wsV RX5 183 RX5 yX5_agreesWithHeard wsX5_agreesWithHeard) := goodIn_app (goodIn_of _ (by decide +kernel)) ggX5_hours_X5_agreesWithHeard
theorem dX5_hours_0 : decode cX5_hours 0 = .ok (.aload_n 0, 1) := by decide +kernel
theorem dX5_hours_1 : decode cX5_hours 1 = .ok (.invokevirtual 134, 3) := by decide +kernel
theorem dX5_hours_4 : decode cX5_hours 4 = .ok (.ifCond .ne 6, 3) := by decide +kernel
theorem dX5_hours_7 : decode cX5_hours 7 = .ok (.bipush (-103), 2) := by decide +kernel
theorem dX5_hours_9 : decode cX5_hours 9 = .ok (.ireturn, 1) := by decide +kernel
theorem dX5_hours_10 : decode cX5_hours 10 = .ok (.aload_n 0, 1) := by decide +kernel
theorem dX5_hours_11 : decode cX5_hours 11 = .ok (.invokevirtual 106, 3) := by decide +kernel
theorem dX5_hours_14 : decode cX5_hours 14 = .ok (.astore_n 1, 1) := by decide +kernel
theorem dX5_hours_15 : decode cX5_hours 15 = .ok (.iconst 0, 1) := by decide +kernel
theorem dX5_hours_16 : decode cX5_hours 16 = .ok (.istore_n 2, 1) := by decide +kernel
theorem dX5_hours_17 : decode cX5_hours 17 = .ok (.iconst 0, 1) := by decide +kernel
theorem dX5_hours_18 : decode cX5_hours 18 = .ok (.istore_n 3, 1) := by decide +kernel
theorem dX5_hours_19 : decode cX5_hours 19 = .ok (.iload_n 3, 1) := by decide +kernel
theorem dX5_hours_20 : decode cX5_hours 20 = .ok (.bipush 10, 2) := by decide +kernel
theorem dX5_hours_22 : decode cX5_hours 22 = .ok (.if_icmp .ge 24, 3) := by decide +kernel
theorem dX5_hours_25 : decode cX5_hours 25 = .ok (.aload_n 0, 1) := by decide +kernel
theorem dX5_hours_26 : decode cX5_hours 26 = .ok (.aload_n 1, 1) := by decide +kernel
theorem dX5_hours_27 : decode cX5_hours 27 = .ok (.iload_n 3, 1) := by decide +kernel
theorem dX5_hours_28 : decode cX5_hours 28 = .ok (.invokevirtual 183, 3) := by decide +kernel
theorem dX5_hours_31 : decode cX5_hours 31 = .ok (.ifCond .eq 9, 3) := by decide +kernel
theorem dX5_hours_34 : decode cX5_hours 34 = .ok (.iload_n 2, 1) := by decide +kernel
theorem dX5_hours_35 : decode cX5_hours 35 = .ok (.iconst 1, 1) := by decide +kernel
theorem dX5_hours_36 : decode cX5_hours 36 = .ok (.iload_n 3, 1) := by decide +kernel
theorem dX5_hours_37 : decode cX5_hours 37 = .ok (.ishl, 1) := by decide +kernel
theorem dX5_hours_38 : decode cX5_hours 38 = .ok (.ior, 1) := by decide +kernel
theorem dX5_hours_39 : decode cX5_hours 39 = .ok (.istore_n 2, 1) := by decide +kernel
theorem dX5_hours_40 : decode cX5_hours 40 = .ok (.iinc 3 1, 3) := by decide +kernel
theorem dX5_hours_43 : decode cX5_hours 43 = .ok (.goto (-24), 3) := by decide +kernel
theorem dX5_hours_46 : decode cX5_hours 46 = .ok (.iload_n 2, 1) := by decide +kernel
theorem dX5_hours_47 : decode cX5_hours 47 = .ok (.ireturn, 1) := by decide +kernel
set_option maxRecDepth 20000 in
theorem ggX5_ask_X5_isHourOfDay : GoodIn wsX5_ask wsX5_isHourOfDay := goodIn_r _ [7, 8, 9, 6, 10] (by decide +kernel) (by decide +kernel)
set_option maxRecDepth 20000 in
theorem gX5_ask_X5_isHourOfDay : GoodIn wsX5_ask (va_wsS RX5 131 yX5_isHourOfDay wsX5_isHourOfDay) := goodIn_app (goodIn_of _ (by decide +kernel)) ggX5_ask_X5_isHourOfDay
set_option maxRecDepth 20000 in
theorem ggX5_ask_X5_hasColony : GoodIn wsX5_ask wsX5_hasColony := goodIn_r _ [14, 3, 141, 142, 143, 144, 145, 146, 147, 148, 149] (by decide +kernel) (by decide +kernel)
set_option maxRecDepth 20000 in
theorem gX5_ask_X5_hasColony : GoodIn wsX5_ask (wsV RX5 134 RX5 yX5_hasColony wsX5_hasColony) := goodIn_app (goodIn_of _ (by decide +kernel)) ggX5_ask_X5_hasColony
set_option maxRecDepth 20000 in
theorem ggX5_ask_X5_hours : GoodIn wsX5_ask wsX5_hours := goodIn_r _ [18, 11, 12, 13, 6, 14, 3, 19, 20, 21, 22, 23, 1, 24, 25, 26, 27, 28, 29, 30, 31, 32, 33, 34, 35, 36, 37, 38, 39, 40, 41, 42, 43, 44, 45, 9, 10, 46, 47, 48, 49, 50, 51, 52, 53, 54, 55, 56, 57, 58, 59, 60, 61, 62, 2, 63, 64, 65, 66, 67, 68, 69, 70, 71, 72, 73, 74, 75, 76, 77, 78, 79, 80, 81, 82, 83, 84, 85, 86, 87, 88, 89, 90, 91, 92, 93, 94, 95, 96, 97, 98, 99, 100, 101, 102, 103, 104, 105, 106, 107, 108, 109, 110, 111, 112, 113, 114, 115, 8, 116, 117, 118, 119, 120, 121, 122, 123, 124, 125, 126, 127, 128, 129, 130, 131, 141, 142, 143, 144, 145, 146, 147, 148, 149, 150, 151, 152, 153, 154, 155, 156, 157, 158, 159, 160, 161, 162] (by decide +kernel) (by decide +kernel)
set_option maxRecDepth 20000 in
theorem gX5_ask_X5_hours : GoodIn wsX5_ask (wsV RX5 187 RX5 yX5_hours wsX5_hours) := goodIn_app (goodIn_of _ (by decide +kernel)) ggX5_ask_X5_hours
set_option maxRecDepth 20000 in
theorem ggX5_ask_X1_size : GoodIn wsX5_ask wsX1_size := goodIn_r _ [67, 68, 158, 159, 160, 161, 162] (by decide +kernel) (by decide +kernel)
set_option maxRecDepth 20000 in
theorem gX5_ask_X1_size : GoodIn wsX5_ask (wsV RX5 180 RX1 yX1_size wsX1_size) := goodIn_app (goodIn_of _ (by decide +kernel)) ggX5_ask_X1_size
set_option maxRecDepth 20000 in
theorem ggX5_ask_X5_tideNow : GoodIn wsX5_ask wsX5_tideNow := goodIn_r _ [22, 23, 1, 24, 25, 26, 27, 28, 29, 30, 31, 32, 33, 34, 35, 36, 37, 38, 39, 40, 41, 42, 43, 44, 45, 9, 6, 10, 46, 47, 48, 49, 50, 51, 52, 53, 54, 55, 56, 57, 58, 141, 142, 143, 144, 145, 146, 147, 148, 149, 150, 151, 152, 153, 154, 155, 156, 157] (by decide +kernel) (by decide +kernel)
set_option maxRecDepth 20000 in
theorem gX5_ask_X5_tideNow : GoodIn wsX5_ask (wsV RX5 106 RX5 yX5_tideNow wsX5_tideNow) := goodIn_app (goodIn_of _ (by decide +kernel)) ggX5_ask_X5_tideNow
set_option maxRecDepth 20000 in
theorem ggX5_ask_X5_mostLeft : GoodIn wsX5_ask wsX5_mostLeft := goodIn_r _ [135, 1, 2, 101, 56, 57, 58, 136, 137, 138, 66, 139, 68, 140, 70, 71, 72, 73, 74, 75, 76, 77, 9, 6, 10, 78, 79, 80, 81, 82, 83, 84, 85, 28, 86, 30, 51, 52, 53, 54, 55, 97, 98, 99, 100, 102, 103, 104, 105, 106, 107, 108, 109, 110, 111, 112, 113, 114, 115, 8, 116, 117, 118, 119, 120, 121, 122, 123, 124, 125, 126, 141, 142, 143, 144, 145, 146, 147, 148, 149, 150, 151, 152, 153, 158, 159, 160, 161, 162, 154] (by decide +kernel) (by decide +kernel)
set_option maxRecDepth 20000 in
theorem gX5_ask_X5_mostLeft : GoodIn wsX5_ask (wsV RX5 190 RX5 yX5_mostLeft wsX5_mostLeft) := goodIn_app (goodIn_of _ (by decide +kernel)) ggX5_ask_X5_mostLeft
theorem dX5_ask_0 : decode cX5_ask 0 = .ok (.iload_n 1, 1) := by decide +kernel
theorem dX5_ask_1 : decode cX5_ask 1 = .ok (.invokestatic 131, 3) := by decide +kernel
theorem dX5_ask_4 : decode cX5_ask 4 = .ok (.ifCond .ne 6, 3) := by decide +kernel
theorem dX5_ask_7 : decode cX5_ask 7 = .ok (.bipush (-102), 2) := by decide +kernel
theorem dX5_ask_9 : decode cX5_ask 9 = .ok (.ireturn, 1) := by decide +kernel
theorem dX5_ask_10 : decode cX5_ask 10 = .ok (.aload_n 0, 1) := by decide +kernel
theorem dX5_ask_11 : decode cX5_ask 11 = .ok (.invokevirtual 134, 3) := by decide +kernel
theorem dX5_ask_14 : decode cX5_ask 14 = .ok (.ifCond .ne 6, 3) := by decide +kernel
theorem dX5_ask_17 : decode cX5_ask 17 = .ok (.bipush (-103), 2) := by decide +kernel
theorem dX5_ask_19 : decode cX5_ask 19 = .ok (.ireturn, 1) := by decide +kernel
theorem dX5_ask_20 : decode cX5_ask 20 = .ok (.aload_n 0, 1) := by decide +kernel
theorem dX5_ask_21 : decode cX5_ask 21 = .ok (.invokevirtual 187, 3) := by decide +kernel
theorem dX5_ask_24 : decode cX5_ask 24 = .ok (.istore_n 2, 1) := by decide +kernel
theorem dX5_ask_25 : decode cX5_ask 25 = .ok (.iload_n 2, 1) := by decide +kernel
theorem dX5_ask_26 : decode cX5_ask 26 = .ok (.ifCond .eq 16, 3) := by decide +kernel
theorem dX5_ask_29 : decode cX5_ask 29 = .ok (.aload_n 0, 1) := by decide +kernel
theorem dX5_ask_30 : decode cX5_ask 30 = .ok (.getfield 23, 3) := by decide +kernel
theorem dX5_ask_33 : decode cX5_ask 33 = .ok (.getfield 171, 3) := by decide +kernel
theorem dX5_ask_36 : decode cX5_ask 36 = .ok (.invokevirtual 180, 3) := by decide +kernel
theorem dX5_ask_39 : decode cX5_ask 39 = .ok (.ifCond .ne 5, 3) := by decide +kernel
theorem dX5_ask_42 : decode cX5_ask 42 = .ok (.iconst (-1), 1) := by decide +kernel
theorem dX5_ask_43 : decode cX5_ask 43 = .ok (.ireturn, 1) := by decide +kernel
theorem dX5_ask_44 : decode cX5_ask 44 = .ok (.aload_n 0, 1) := by decide +kernel
theorem dX5_ask_45 : decode cX5_ask 45 = .ok (.invokevirtual 106, 3) := by decide +kernel
theorem dX5_ask_48 : decode cX5_ask 48 = .ok (.astore_n 3, 1) := by decide +kernel
theorem dX5_ask_49 : decode cX5_ask 49 = .ok (.iconst (-1), 1) := by decide +kernel
theorem dX5_ask_50 : decode cX5_ask 50 = .ok (.istore 4, 2) := by decide +kernel
theorem dX5_ask_52 : decode cX5_ask 52 = .ok (.bipush 11, 2) := by decide +kernel
theorem dX5_ask_54 : decode cX5_ask 54 = .ok (.istore 5, 2) := by decide +kernel
theorem dX5_ask_56 : decode cX5_ask 56 = .ok (.iconst 0, 1) := by decide +kernel
theorem dX5_ask_57 : decode cX5_ask 57 = .ok (.istore 6, 2) := by decide +kernel
theorem dX5_ask_59 : decode cX5_ask 59 = .ok (.iload 6, 2) := by decide +kernel
theorem dX5_ask_61 : decode cX5_ask 61 = .ok (.aload_n 0, 1) := by decide +kernel
theorem dX5_ask_62 : decode cX5_ask 62 = .ok (.getfield 65, 3) := by decide +kernel
theorem dX5_ask_65 : decode cX5_ask 65 = .ok (.if_icmp .ge 35, 3) := by decide +kernel
theorem dX5_ask_68 : decode cX5_ask 68 = .ok (.aload_n 0, 1) := by decide +kernel
theorem dX5_ask_69 : decode cX5_ask 69 = .ok (.iload_n 2, 1) := by decide +kernel
theorem dX5_ask_70 : decode cX5_ask 70 = .ok (.aload_n 3, 1) := by decide +kernel
theorem dX5_ask_71 : decode cX5_ask 71 = .ok (.iload 6, 2) := by decide +kernel
theorem dX5_ask_73 : decode cX5_ask 73 = .ok (.iload_n 1, 1) := by decide +kernel
theorem dX5_ask_74 : decode cX5_ask 74 = .ok (.invokevirtual 190, 3) := by decide +kernel
theorem dX5_ask_77 : decode cX5_ask 77 = .ok (.istore 7, 2) := by decide +kernel
theorem dX5_ask_79 : decode cX5_ask 79 = .ok (.iload 7, 2) := by decide +kernel
theorem dX5_ask_81 : decode cX5_ask 81 = .ok (.iload 5, 2) := by decide +kernel
theorem dX5_ask_83 : decode cX5_ask 83 = .ok (.if_icmp .ge 11, 3) := by decide +kernel
theorem dX5_ask_86 : decode cX5_ask 86 = .ok (.iload 7, 2) := by decide +kernel
theorem dX5_ask_88 : decode cX5_ask 88 = .ok (.istore 5, 2) := by decide +kernel
theorem dX5_ask_90 : decode cX5_ask 90 = .ok (.iload 6, 2) := by decide +kernel
theorem dX5_ask_92 : decode cX5_ask 92 = .ok (.istore 4, 2) := by decide +kernel
theorem dX5_ask_94 : decode cX5_ask 94 = .ok (.iinc 6 1, 3) := by decide +kernel
theorem dX5_ask_97 : decode cX5_ask 97 = .ok (.goto (-38), 3) := by decide +kernel
theorem dX5_ask_100 : decode cX5_ask 100 = .ok (.iload 4, 2) := by decide +kernel
theorem dX5_ask_102 : decode cX5_ask 102 = .ok (.ireturn, 1) := by decide +kernel
set_option maxRecDepth 20000 in
theorem ggX5_weeks_X5_isWithin : GoodIn wsX5_weeks wsX5_isWithin := goodIn_r _ [5] (by decide +kernel) (by decide +kernel)
set_option maxRecDepth 20000 in
theorem gX5_weeks_X5_isWithin : GoodIn wsX5_weeks (va_wsS RX5 40 yX5_isWithin wsX5_isWithin) := goodIn_app (goodIn_of _ (by decide +kernel)) ggX5_weeks_X5_isWithin
set_option maxRecDepth 20000 in
theorem ggX5_weeks_X5_hasColony : GoodIn wsX5_weeks wsX5_hasColony := goodIn_r _ [9, 10, 88, 89, 90, 91, 92, 93, 94, 95, 96] (by decide +kernel) (by decide +kernel)
set_option maxRecDepth 20000 in
theorem gX5_weeks_X5_hasColony : GoodIn wsX5_weeks (wsV RX5 134 RX5 yX5_hasColony wsX5_hasColony) := goodIn_app (goodIn_of _ (by decide +kernel)) ggX5_weeks_X5_hasColony
set_option maxRecDepth 20000 in
theorem ggX5_weeks_X5_drawDay : GoodIn wsX5_weeks wsX5_drawDay := goodIn_r _ [14, 15, 16, 1, 17, 18, 19, 20, 21, 22, 23, 24, 25, 26, 27, 28, 29, 30, 31, 32, 33, 34, 35, 36, 37, 38, 39, 40, 41, 3, 4, 5, 42, 43, 44, 45, 46, 47, 48, 49, 88, 89, 90, 91, 92, 93, 94, 95, 96, 97, 98, 99, 100, 101, 102, 103, 104] (by decide +kernel) (by decide +kernel)
set_option maxRecDepth 20000 in
theorem gX5_weeks_X5_drawDay : GoodIn wsX5_weeks (wsV RX5 194 RX5 yX5_drawDay wsX5_drawDay) := goodIn_app (goodIn_of _ (by decide +kernel)) ggX5_weeks_X5_drawDay
set_option maxRecDepth 20000 in
theorem ggX5_weeks_X5_hoursOfAll : GoodIn wsX5_weeks wsX5_hoursOfAll := goodIn_r _ [53, 10, 54, 55, 56, 4, 57, 58, 59, 60, 61, 15, 62, 47, 48, 49, 63, 64, 65, 66, 67, 68, 69, 70, 71, 3, 5, 72, 73, 74, 75, 76, 2, 77, 78, 79, 24, 80, 26, 81, 82, 83, 84, 85, 86, 87, 88, 89, 90, 91, 92, 93, 94, 95, 96, 97, 98, 99, 100, 101] (by decide +kernel) (by decide +kernel)
set_option maxRecDepth 20000 in
theorem gX5_weeks_X5_hoursOfAll : GoodIn wsX5_weeks (wsV RX5 168 RX5 yX5_hoursOfAll wsX5_hoursOfAll) := goodIn_app (goodIn_of _ (by decide +kernel)) ggX5_weeks_X5_hoursOfAll
set_option maxRecDepth 20000 in
theorem ggX5_weeks_X4_at : GoodIn wsX5_weeks wsX4_at := goodIn_r _ [80, 26, 81, 64, 48, 65, 101] (by decide +kernel) (by decide +kernel)
set_option maxRecDepth 20000 in
theorem gX5_weeks_X4_at : GoodIn wsX5_weeks (wsV RX5 137 RX4 yX4_at wsX4_at) := goodIn_app (goodIn_of _ (by decide +kernel)) ggX5_weeks_X4_at
theorem dX5_weeks_0 : decode cX5_weeks 0 = .ok (.iload_n 1, 1) := by decide +kernel
theorem dX5_weeks_1 : decode cX5_weeks 1 = .ok (.iconst 1, 1) := by decide +kernel
theorem dX5_weeks_2 : decode cX5_weeks 2 = .ok (.bipush 30, 2) := by decide +kernel
theorem dX5_weeks_4 : decode cX5_weeks 4 = .ok (.invokestatic 40, 3) := by decide +kernel
theorem dX5_weeks_7 : decode cX5_weeks 7 = .ok (.ifCond .eq 16, 3) := by decide +kernel
theorem dX5_weeks_10 : decode cX5_weeks 10 = .ok (.iload_n 2, 1) := by decide +kernel
theorem dX5_weeks_11 : decode cX5_weeks 11 = .ok (.ifCond .lt 12, 3) := by decide +kernel
theorem dX5_weeks_14 : decode cX5_weeks 14 = .ok (.iload_n 3, 1) := by decide +kernel
theorem dX5_weeks_15 : decode cX5_weeks 15 = .ok (.iconst 0, 1) := by decide +kernel
theorem dX5_weeks_16 : decode cX5_weeks 16 = .ok (.iconst 2, 1) := by decide +kernel
theorem dX5_weeks_17 : decode cX5_weeks 17 = .ok (.invokestatic 40, 3) := by decide +kernel
theorem dX5_weeks_20 : decode cX5_weeks 20 = .ok (.ifCond .ne 6, 3) := by decide +kernel
theorem dX5_weeks_23 : decode cX5_weeks 23 = .ok (.bipush (-102), 2) := by decide +kernel
theorem dX5_weeks_25 : decode cX5_weeks 25 = .ok (.ireturn, 1) := by decide +kernel
theorem dX5_weeks_26 : decode cX5_weeks 26 = .ok (.aload_n 0, 1) := by decide +kernel
theorem dX5_weeks_27 : decode cX5_weeks 27 = .ok (.invokevirtual 134, 3) := by decide +kernel
theorem dX5_weeks_30 : decode cX5_weeks 30 = .ok (.ifCond .ne 6, 3) := by decide +kernel
theorem dX5_weeks_33 : decode cX5_weeks 33 = .ok (.bipush (-103), 2) := by decide +kernel
theorem dX5_weeks_35 : decode cX5_weeks 35 = .ok (.ireturn, 1) := by decide +kernel
theorem dX5_weeks_36 : decode cX5_weeks 36 = .ok (.iload_n 2, 1) := by decide +kernel
theorem dX5_weeks_37 : decode cX5_weeks 37 = .ok (.istore 4, 2) := by decide +kernel
theorem dX5_weeks_39 : decode cX5_weeks 39 = .ok (.iconst 0, 1) := by decide +kernel
theorem dX5_weeks_40 : decode cX5_weeks 40 = .ok (.istore 5, 2) := by decide +kernel
theorem dX5_weeks_42 : decode cX5_weeks 42 = .ok (.iconst 0, 1) := by decide +kernel
theorem dX5_weeks_43 : decode cX5_weeks 43 = .ok (.istore 6, 2) := by decide +kernel
theorem dX5_weeks_45 : decode cX5_weeks 45 = .ok (.iconst 0, 1) := by decide +kernel
theorem dX5_weeks_46 : decode cX5_weeks 46 = .ok (.istore 7, 2) := by decide +kernel
theorem dX5_weeks_48 : decode cX5_weeks 48 = .ok (.iload 7, 2) := by decide +kernel
theorem dX5_weeks_50 : decode cX5_weeks 50 = .ok (.iload_n 1, 1) := by decide +kernel
theorem dX5_weeks_51 : decode cX5_weeks 51 = .ok (.if_icmp .ge 45, 3) := by decide +kernel
theorem dX5_weeks_54 : decode cX5_weeks 54 = .ok (.aload_n 0, 1) := by decide +kernel
theorem dX5_weeks_55 : decode cX5_weeks 55 = .ok (.iload 4, 2) := by decide +kernel
theorem dX5_weeks_57 : decode cX5_weeks 57 = .ok (.invokevirtual 194, 3) := by decide +kernel
theorem dX5_weeks_60 : decode cX5_weeks 60 = .ok (.istore 4, 2) := by decide +kernel
theorem dX5_weeks_62 : decode cX5_weeks 62 = .ok (.iload 5, 2) := by decide +kernel
theorem dX5_weeks_64 : decode cX5_weeks 64 = .ok (.aload_n 0, 1) := by decide +kernel
theorem dX5_weeks_65 : decode cX5_weeks 65 = .ok (.iconst 0, 1) := by decide +kernel
theorem dX5_weeks_66 : decode cX5_weeks 66 = .ok (.aload_n 0, 1) := by decide +kernel
theorem dX5_weeks_67 : decode cX5_weeks 67 = .ok (.getfield 37, 3) := by decide +kernel
theorem dX5_weeks_70 : decode cX5_weeks 70 = .ok (.invokevirtual 168, 3) := by decide +kernel
theorem dX5_weeks_73 : decode cX5_weeks 73 = .ok (.iadd, 1) := by decide +kernel
theorem dX5_weeks_74 : decode cX5_weeks 74 = .ok (.istore 5, 2) := by decide +kernel
theorem dX5_weeks_76 : decode cX5_weeks 76 = .ok (.iload 6, 2) := by decide +kernel
theorem dX5_weeks_78 : decode cX5_weeks 78 = .ok (.aload_n 0, 1) := by decide +kernel
theorem dX5_weeks_79 : decode cX5_weeks 79 = .ok (.getfield 37, 3) := by decide +kernel
theorem dX5_weeks_82 : decode cX5_weeks 82 = .ok (.bipush 11, 2) := by decide +kernel
theorem dX5_weeks_84 : decode cX5_weeks 84 = .ok (.invokevirtual 137, 3) := by decide +kernel
theorem dX5_weeks_87 : decode cX5_weeks 87 = .ok (.iadd, 1) := by decide +kernel
theorem dX5_weeks_88 : decode cX5_weeks 88 = .ok (.istore 6, 2) := by decide +kernel
theorem dX5_weeks_90 : decode cX5_weeks 90 = .ok (.iinc 7 1, 3) := by decide +kernel
theorem dX5_weeks_93 : decode cX5_weeks 93 = .ok (.goto (-45), 3) := by decide +kernel
theorem dX5_weeks_96 : decode cX5_weeks 96 = .ok (.iload_n 3, 1) := by decide +kernel
theorem dX5_weeks_97 : decode cX5_weeks 97 = .ok (.lookupswitch 33 #[(0, 27), (1, 30)], 27) := by decide +kernel
theorem dX5_weeks_124 : decode cX5_weeks 124 = .ok (.iload 5, 2) := by decide +kernel
theorem dX5_weeks_126 : decode cX5_weeks 126 = .ok (.ireturn, 1) := by decide +kernel
theorem dX5_weeks_127 : decode cX5_weeks 127 = .ok (.iload 6, 2) := by decide +kernel
theorem dX5_weeks_129 : decode cX5_weeks 129 = .ok (.ireturn, 1) := by decide +kernel
theorem dX5_weeks_130 : decode cX5_weeks 130 = .ok (.iload 4, 2) := by decide +kernel
theorem dX5_weeks_132 : decode cX5_weeks 132 = .ok (.ireturn, 1) := by decide +kernel
set_option maxRecDepth 20000 in
theorem ggX5_image_X5_hasColony : GoodIn wsX5_image wsX5_hasColony := goodIn_r _ [9, 10, 38, 39, 40, 41, 42, 43, 44, 45, 46] (by decide +kernel) (by decide +kernel)
set_option maxRecDepth 20000 in
theorem gX5_image_X5_hasColony : GoodIn wsX5_image (wsV RX5 134 RX5 yX5_hasColony wsX5_hasColony) := goodIn_app (goodIn_of _ (by decide +kernel)) ggX5_image_X5_hasColony
set_option maxRecDepth 20000 in
theorem ggX5_image_X0_copyFrom : GoodIn wsX5_image wsX0_copyFrom := goodIn_r _ [15, 16, 17, 18, 19, 20, 21, 22, 23, 24, 25, 26, 27, 28, 29, 30, 31, 32, 33, 34, 35, 36, 37, 47, 48, 49, 50, 51, 52, 53, 54, 55, 56, 57, 58] (by decide +kernel) (by decide +kernel)
set_option maxRecDepth 20000 in
theorem gX5_image_X0_copyFrom : GoodIn wsX5_image (wsV RX5 197 RX0 yX0_copyFrom wsX0_copyFrom) := goodIn_app (goodIn_of _ (by decide +kernel)) ggX5_image_X0_copyFrom
theorem dX5_image_0 : decode cX5_image 0 = .ok (.aload_n 0, 1) := by decide +kernel
theorem dX5_image_1 : decode cX5_image 1 = .ok (.invokevirtual 134, 3) := by decide +kernel
theorem dX5_image_4 : decode cX5_image 4 = .ok (.ifCond .ne 6, 3) := by decide +kernel
theorem dX5_image_7 : decode cX5_image 7 = .ok (.bipush (-103), 2) := by decide +kernel
theorem dX5_image_9 : decode cX5_image 9 = .ok (.ireturn, 1) := by decide +kernel
theorem dX5_image_10 : decode cX5_image 10 = .ok (.aload_n 0, 1) := by decide +kernel
theorem dX5_image_11 : decode cX5_image 11 = .ok (.getfield 27, 3) := by decide +kernel
theorem dX5_image_14 : decode cX5_image 14 = .ok (.aload_n 0, 1) := by decide +kernel
theorem dX5_image_15 : decode cX5_image 15 = .ok (.getfield 23, 3) := by decide +kernel
theorem dX5_image_18 : decode cX5_image 18 = .ok (.invokevirtual 197, 3) := by decide +kernel
theorem dX5_image_21 : decode cX5_image 21 = .ok (.aload_n 0, 1) := by decide +kernel
theorem dX5_image_22 : decode cX5_image 22 = .ok (.iconst 1, 1) := by decide +kernel
theorem dX5_image_23 : decode cX5_image 23 = .ok (.putfield 96, 3) := by decide +kernel
theorem dX5_image_26 : decode cX5_image 26 = .ok (.aload_n 0, 1) := by decide +kernel
theorem dX5_image_27 : decode cX5_image 27 = .ok (.getfield 23, 3) := by decide +kernel
theorem dX5_image_30 : decode cX5_image 30 = .ok (.getfield 128, 3) := by decide +kernel
theorem dX5_image_33 : decode cX5_image 33 = .ok (.ireturn, 1) := by decide +kernel
set_option maxRecDepth 20000 in
theorem ggX5_restore_X0_copyFrom : GoodIn wsX5_restore wsX0_copyFrom := goodIn_r _ [9, 10, 11, 12, 13, 14, 15, 16, 17, 18, 19, 20, 21, 22, 23, 24, 25, 26, 27, 28, 29, 30, 31, 41, 42, 43, 44, 45, 46, 47, 48, 49, 50, 51, 52] (by decide +kernel) (by decide +kernel)
set_option maxRecDepth 20000 in
theorem gX5_restore_X0_copyFrom : GoodIn wsX5_restore (wsV RX5 197 RX0 yX0_copyFrom wsX0_copyFrom) := goodIn_app (goodIn_of _ (by decide +kernel)) ggX5_restore_X0_copyFrom
theorem dX5_restore_0 : decode cX5_restore 0 = .ok (.aload_n 0, 1) := by decide +kernel
theorem dX5_restore_1 : decode cX5_restore 1 = .ok (.getfield 96, 3) := by decide +kernel
theorem dX5_restore_4 : decode cX5_restore 4 = .ok (.ifCond .ne 6, 3) := by decide +kernel
theorem dX5_restore_7 : decode cX5_restore 7 = .ok (.bipush (-103), 2) := by decide +kernel
theorem dX5_restore_9 : decode cX5_restore 9 = .ok (.ireturn, 1) := by decide +kernel
theorem dX5_restore_10 : decode cX5_restore 10 = .ok (.aload_n 0, 1) := by decide +kernel
theorem dX5_restore_11 : decode cX5_restore 11 = .ok (.getfield 23, 3) := by decide +kernel
theorem dX5_restore_14 : decode cX5_restore 14 = .ok (.aload_n 0, 1) := by decide +kernel
theorem dX5_restore_15 : decode cX5_restore 15 = .ok (.getfield 27, 3) := by decide +kernel
theorem dX5_restore_18 : decode cX5_restore 18 = .ok (.invokevirtual 197, 3) := by decide +kernel
theorem dX5_restore_21 : decode cX5_restore 21 = .ok (.aload_n 0, 1) := by decide +kernel
theorem dX5_restore_22 : decode cX5_restore 22 = .ok (.getfield 23, 3) := by decide +kernel
theorem dX5_restore_25 : decode cX5_restore 25 = .ok (.getfield 128, 3) := by decide +kernel
theorem dX5_restore_28 : decode cX5_restore 28 = .ok (.ireturn, 1) := by decide +kernel
set_option maxRecDepth 20000 in
theorem ggX5_count_X3_size : GoodIn wsX5_count wsX3_size := goodIn_r _ [12, 13, 119, 120, 121] (by decide +kernel) (by decide +kernel)
set_option maxRecDepth 20000 in
theorem gX5_count_X3_size : GoodIn wsX5_count (wsV RX5 141 RX3 yX3_size wsX3_size) := goodIn_app (goodIn_of _ (by decide +kernel)) ggX5_count_X3_size
set_option maxRecDepth 20000 in
theorem ggX5_count_X5_tideNow : GoodIn wsX5_count wsX5_tideNow := goodIn_r _ [18, 19, 2, 3, 20, 21, 22, 23, 24, 25, 8, 9, 10, 11, 12, 13, 26, 27, 28, 29, 30, 31, 32, 33, 34, 35, 17, 36, 37, 38, 39, 40, 41, 42, 43, 44, 45, 46, 47, 48, 49, 106, 107, 108, 109, 110, 111, 112, 113, 114, 115, 116, 117, 118, 122, 119, 120, 121] (by decide +kernel) (by decide +kernel)
set_option maxRecDepth 20000 in
theorem gX5_count_X5_tideNow : GoodIn wsX5_count (wsV RX5 106 RX5 yX5_tideNow wsX5_tideNow) := goodIn_app (goodIn_of _ (by decide +kernel)) ggX5_count_X5_tideNow
set_option maxRecDepth 20000 in
theorem ggX5_count_X4_greatest : GoodIn wsX5_count wsX4_greatest := goodIn_r _ [53, 46, 47, 48, 49, 54, 55, 56, 23, 57, 25, 58, 59, 60, 122] (by decide +kernel) (by decide +kernel)
set_option maxRecDepth 20000 in
theorem gX5_count_X4_greatest : GoodIn wsX5_count (wsV RX5 201 RX4 yX4_greatest wsX4_greatest) := goodIn_app (goodIn_of _ (by decide +kernel)) ggX5_count_X4_greatest
set_option maxRecDepth 20000 in
theorem ggX5_count_X5_hoursOfAll : GoodIn wsX5_count wsX5_hoursOfAll := goodIn_r _ [64, 1, 65, 66, 67, 17, 68, 69, 70, 71, 72, 2, 73, 47, 48, 49, 74, 59, 60, 75, 76, 77, 78, 79, 80, 35, 36, 81, 82, 83, 84, 85, 86, 87, 55, 56, 23, 57, 25, 58, 88, 89, 90, 91, 92, 93, 106, 107, 108, 109, 110, 111, 112, 113, 114, 115, 116, 117, 118, 122] (by decide +kernel) (by decide +kernel)
set_option maxRecDepth 20000 in
theorem gX5_count_X5_hoursOfAll : GoodIn wsX5_count (wsV RX5 168 RX5 yX5_hoursOfAll wsX5_hoursOfAll) := goodIn_app (goodIn_of _ (by decide +kernel)) ggX5_count_X5_hoursOfAll
set_option maxRecDepth 20000 in
theorem ggX5_count_X1_size : GoodIn wsX5_count wsX1_size := goodIn_r _ [98, 99, 123, 124, 125, 126, 127] (by decide +kernel) (by decide +kernel)
set_option maxRecDepth 20000 in
theorem gX5_count_X1_size : GoodIn wsX5_count (wsV RX5 180 RX1 yX1_size wsX1_size) := goodIn_app (goodIn_of _ (by decide +kernel)) ggX5_count_X1_size
set_option maxRecDepth 20000 in
theorem ggX5_count_X2_size : GoodIn wsX5_count wsX2_size := goodIn_r _ [104, 105, 128, 129] (by decide +kernel) (by decide +kernel)
set_option maxRecDepth 20000 in
theorem gX5_count_X2_size : GoodIn wsX5_count (wsV RX5 48 RX2 yX2_size wsX2_size) := goodIn_app (goodIn_of _ (by decide +kernel)) ggX5_count_X2_size
theorem dX5_count_0 : decode cX5_count 0 = .ok (.iload_n 1, 1) := by decide +kernel
theorem dX5_count_1 : decode cX5_count 1 = .ok (.tableswitch 127 0 8 #[51, 56, 67, 75, 85, 95, 103, 114, 122], 51) := by decide +kernel
theorem dX5_count_52 : decode cX5_count 52 = .ok (.aload_n 0, 1) := by decide +kernel
theorem dX5_count_53 : decode cX5_count 53 = .ok (.getfield 65, 3) := by decide +kernel
theorem dX5_count_56 : decode cX5_count 56 = .ok (.ireturn, 1) := by decide +kernel
theorem dX5_count_57 : decode cX5_count 57 = .ok (.aload_n 0, 1) := by decide +kernel
theorem dX5_count_58 : decode cX5_count 58 = .ok (.getfield 23, 3) := by decide +kernel
theorem dX5_count_61 : decode cX5_count 61 = .ok (.getfield 86, 3) := by decide +kernel
theorem dX5_count_64 : decode cX5_count 64 = .ok (.invokevirtual 141, 3) := by decide +kernel
theorem dX5_count_67 : decode cX5_count 67 = .ok (.ireturn, 1) := by decide +kernel
theorem dX5_count_68 : decode cX5_count 68 = .ok (.aload_n 0, 1) := by decide +kernel
theorem dX5_count_69 : decode cX5_count 69 = .ok (.invokevirtual 106, 3) := by decide +kernel
theorem dX5_count_72 : decode cX5_count 72 = .ok (.invokevirtual 201, 3) := by decide +kernel
theorem dX5_count_75 : decode cX5_count 75 = .ok (.ireturn, 1) := by decide +kernel
theorem dX5_count_76 : decode cX5_count 76 = .ok (.aload_n 0, 1) := by decide +kernel
theorem dX5_count_77 : decode cX5_count 77 = .ok (.iconst 0, 1) := by decide +kernel
theorem dX5_count_78 : decode cX5_count 78 = .ok (.aload_n 0, 1) := by decide +kernel
theorem dX5_count_79 : decode cX5_count 79 = .ok (.invokevirtual 106, 3) := by decide +kernel
theorem dX5_count_82 : decode cX5_count 82 = .ok (.invokevirtual 168, 3) := by decide +kernel
theorem dX5_count_85 : decode cX5_count 85 = .ok (.ireturn, 1) := by decide +kernel
theorem dX5_count_86 : decode cX5_count 86 = .ok (.aload_n 0, 1) := by decide +kernel
theorem dX5_count_87 : decode cX5_count 87 = .ok (.iconst 2, 1) := by decide +kernel
theorem dX5_count_88 : decode cX5_count 88 = .ok (.aload_n 0, 1) := by decide +kernel
theorem dX5_count_89 : decode cX5_count 89 = .ok (.invokevirtual 106, 3) := by decide +kernel
theorem dX5_count_92 : decode cX5_count 92 = .ok (.invokevirtual 168, 3) := by decide +kernel
theorem dX5_count_95 : decode cX5_count 95 = .ok (.ireturn, 1) := by decide +kernel
theorem dX5_count_96 : decode cX5_count 96 = .ok (.aload_n 0, 1) := by decide +kernel
theorem dX5_count_97 : decode cX5_count 97 = .ok (.getfield 23, 3) := by decide +kernel
theorem dX5_count_100 : decode cX5_count 100 = .ok (.getfield 128, 3) := by decide +kernel
theorem dX5_count_103 : decode cX5_count 103 = .ok (.ireturn, 1) := by decide +kernel
theorem dX5_count_104 : decode cX5_count 104 = .ok (.aload_n 0, 1) := by decide +kernel
theorem dX5_count_105 : decode cX5_count 105 = .ok (.getfield 23, 3) := by decide +kernel
theorem dX5_count_108 : decode cX5_count 108 = .ok (.getfield 171, 3) := by decide +kernel
theorem dX5_count_111 : decode cX5_count 111 = .ok (.invokevirtual 180, 3) := by decide +kernel
theorem dX5_count_114 : decode cX5_count 114 = .ok (.ireturn, 1) := by decide +kernel
theorem dX5_count_115 : decode cX5_count 115 = .ok (.aload_n 0, 1) := by decide +kernel
theorem dX5_count_116 : decode cX5_count 116 = .ok (.getfield 10, 3) := by decide +kernel
theorem dX5_count_119 : decode cX5_count 119 = .ok (.invokevirtual 48, 3) := by decide +kernel
theorem dX5_count_122 : decode cX5_count 122 = .ok (.ireturn, 1) := by decide +kernel
theorem dX5_count_123 : decode cX5_count 123 = .ok (.aload_n 0, 1) := by decide +kernel
theorem dX5_count_124 : decode cX5_count 124 = .ok (.getfield 100, 3) := by decide +kernel
theorem dX5_count_127 : decode cX5_count 127 = .ok (.ireturn, 1) := by decide +kernel
theorem dX5_count_128 : decode cX5_count 128 = .ok (.bipush (-102), 2) := by decide +kernel
theorem dX5_count_130 : decode cX5_count 130 = .ok (.ireturn, 1) := by decide +kernel
set_option maxRecDepth 20000 in
theorem ggX5_digest_X5_digestHouses : GoodIn wsX5_digest wsX5_digestHouses := goodIn_r _ [7, 8, 9, 10, 11, 6, 12, 13, 14, 15, 16, 17, 18, 19, 20, 21, 22, 23, 24, 25, 26, 27, 28, 29, 30, 31, 32, 33, 34, 35, 36, 37, 38, 39, 40, 41, 42, 43, 44, 45, 46, 47, 48, 49, 50, 51, 52, 53, 54, 55, 56, 57, 58, 59, 60, 61, 62, 63, 64, 65, 66, 67, 68, 69, 70, 71, 72, 73, 74, 75, 76, 77, 78, 79, 80, 81, 82, 83, 84, 85, 86, 87, 88, 89, 90, 91, 92, 93, 94, 95, 96, 97, 98, 99, 100, 101, 102, 235, 236, 237, 238, 239, 240, 241, 242, 243, 244, 245, 246, 247, 248, 249, 250, 251] (by decide +kernel) (by decide +kernel)
set_option maxRecDepth 20000 in
theorem gX5_digest_X5_digestHouses : GoodIn wsX5_digest (wsV RX5 206 RX5 yX5_digestHouses wsX5_digestHouses) := goodIn_app (goodIn_of _ (by decide +kernel)) ggX5_digest_X5_digestHouses
set_option maxRecDepth 20000 in
theorem ggX5_digest_X5_digestStrokes : GoodIn wsX5_digest wsX5_digestStrokes := goodIn_r _ [106, 13, 26, 33, 34, 35, 36, 37, 38, 107, 108, 109, 6, 110, 111, 45, 46, 47, 19, 20, 39, 40, 41, 42, 43, 44, 48, 49, 50, 51, 52, 112, 113, 114, 115, 116, 117, 99, 100, 101, 102, 235, 236, 237, 238, 239, 240, 241, 242, 243, 244, 245, 246, 247, 249, 250, 251] (by decide +kernel) (by decide +kernel)
set_option maxRecDepth 20000 in
theorem gX5_digest_X5_digestStrokes : GoodIn wsX5_digest (wsV RX5 210 RX5 yX5_digestStrokes wsX5_digestStrokes) := goodIn_app (goodIn_of _ (by decide +kernel)) ggX5_digest_X5_digestStrokes
set_option maxRecDepth 20000 in
theorem ggX5_digest_X5_hasColony : GoodIn wsX5_digest wsX5_hasColony := goodIn_r _ [121, 8, 235, 236, 237, 238, 239, 240, 241, 242, 243] (by decide +kernel) (by decide +kernel)
set_option maxRecDepth 20000 in
theorem gX5_digest_X5_hasColony : GoodIn wsX5_digest (wsV RX5 134 RX5 yX5_hasColony wsX5_hasColony) := goodIn_app (goodIn_of _ (by decide +kernel)) ggX5_digest_X5_hasColony
set_option maxRecDepth 20000 in
theorem ggX5_digest_X5_tide : GoodIn wsX5_digest wsX5_tide := goodIn_r _ [125, 126, 127, 6, 128, 18, 19, 20, 118, 119, 120, 121, 8, 21, 22, 23, 24, 25, 13, 26, 27, 28, 29, 30, 31, 32, 33, 34, 35, 36, 37, 38, 39, 40, 41, 42, 43, 44, 45, 46, 47, 48, 49, 50, 51, 52, 53, 54, 55, 56, 57, 58, 59, 60, 84, 85, 86, 87, 88, 82, 83, 235, 236, 237, 238, 239, 240, 241, 242, 243, 244, 245, 246, 247, 248, 249, 250, 251] (by decide +kernel) (by decide +kernel)
set_option maxRecDepth 20000 in
theorem gX5_digest_X5_tide : GoodIn wsX5_digest (wsV RX5 213 RX5 yX5_tide wsX5_tide) := goodIn_app (goodIn_of _ (by decide +kernel)) ggX5_digest_X5_tide
set_option maxRecDepth 20000 in
theorem ggX5_digest_X5_mix : GoodIn wsX5_digest wsX5_mix := goodIn_r _ [101, 102] (by decide +kernel) (by decide +kernel)
set_option maxRecDepth 20000 in
theorem gX5_digest_X5_mix : GoodIn wsX5_digest (va_wsS RX5 216 yX5_mix wsX5_mix) := goodIn_app (goodIn_of _ (by decide +kernel)) ggX5_digest_X5_mix
set_option maxRecDepth 20000 in
theorem ggX5_digest_X5_allHouses : GoodIn wsX5_digest wsX5_allHouses := goodIn_r _ [132, 8, 235, 236, 237, 238, 239, 240, 241, 242, 243] (by decide +kernel) (by decide +kernel)
set_option maxRecDepth 20000 in
theorem gX5_digest_X5_allHouses : GoodIn wsX5_digest (wsV RX5 157 RX5 yX5_allHouses wsX5_allHouses) := goodIn_app (goodIn_of _ (by decide +kernel)) ggX5_digest_X5_allHouses
set_option maxRecDepth 20000 in
theorem ggX5_digest_X5_dinner : GoodIn wsX5_digest wsX5_dinner := goodIn_r _ [136, 129, 130, 131, 6, 132, 8, 18, 19, 20, 21, 22, 23, 24, 25, 13, 26, 27, 28, 29, 30, 31, 32, 33, 34, 35, 36, 37, 38, 39, 40, 41, 42, 43, 44, 45, 46, 47, 48, 49, 50, 51, 52, 53, 54, 55, 56, 57, 58, 59, 60, 137, 138, 139, 140, 76, 77, 78, 79, 80, 81, 82, 83, 66, 67, 68, 69, 70, 71, 61, 62, 63, 64, 65, 84, 85, 86, 87, 88, 89, 90, 91, 92, 93, 94, 235, 236, 237, 238, 239, 240, 241, 242, 243, 244, 245, 246, 247, 248, 249, 250, 251] (by decide +kernel) (by decide +kernel)
set_option maxRecDepth 20000 in
theorem gX5_digest_X5_dinner : GoodIn wsX5_digest (wsV RX5 220 RX5 yX5_dinner wsX5_dinner) := goodIn_app (goodIn_of _ (by decide +kernel)) ggX5_digest_X5_dinner
set_option maxRecDepth 20000 in
theorem ggX5_digest_X5_best : GoodIn wsX5_digest wsX5_best := goodIn_r _ [144, 8, 145, 146, 6, 147, 18, 19, 20, 118, 119, 120, 121, 21, 22, 23, 24, 25, 13, 26, 27, 28, 29, 30, 31, 32, 33, 34, 35, 36, 37, 38, 39, 40, 41, 42, 43, 44, 45, 46, 47, 48, 49, 50, 51, 52, 53, 54, 55, 56, 57, 58, 59, 60, 148, 149, 150, 151, 152, 153, 154, 155, 156, 157, 158, 159, 160, 72, 73, 74, 75, 76, 77, 78, 79, 80, 81, 82, 83, 66, 67, 68, 69, 70, 71, 61, 62, 63, 64, 65, 84, 85, 86, 87, 88, 89, 90, 91, 92, 93, 94, 235, 236, 237, 238, 239, 240, 241, 242, 243, 244, 245, 246, 247, 248, 249, 250, 251] (by decide +kernel) (by decide +kernel)
set_option maxRecDepth 20000 in
theorem gX5_digest_X5_best : GoodIn wsX5_digest (wsV RX5 224 RX5 yX5_best wsX5_best) := goodIn_app (goodIn_of _ (by decide +kernel)) ggX5_digest_X5_best
set_option maxRecDepth 20000 in
theorem ggX5_digest_X5_hours : GoodIn wsX5_digest wsX5_hours := goodIn_r _ [164, 118, 119, 120, 6, 121, 8, 21, 22, 23, 24, 25, 13, 26, 27, 28, 29, 30, 31, 32, 33, 34, 35, 36, 37, 38, 39, 40, 41, 42, 43, 44, 45, 46, 47, 19, 20, 48, 49, 50, 51, 52, 53, 54, 55, 56, 57, 58, 59, 60, 165, 166, 167, 168, 169, 170, 171, 172, 173, 174, 175, 176, 177, 178, 179, 180, 181, 182, 183, 184, 148, 149, 150, 151, 152, 153, 154, 155, 156, 185, 186, 187, 188, 189, 190, 191, 192, 193, 194, 76, 77, 78, 79, 80, 81, 82, 83, 66, 67, 68, 69, 70, 71, 61, 62, 63, 64, 65, 18, 84, 85, 86, 87, 88, 89, 90, 91, 92, 93, 94, 195, 196, 197, 198, 199, 235, 236, 237, 238, 239, 240, 241, 242, 243, 244, 245, 246, 247, 248, 249, 250, 251, 252, 253, 254, 255, 256] (by decide +kernel) (by decide +kernel)
set_option maxRecDepth 20000 in
theorem gX5_digest_X5_hours : GoodIn wsX5_digest (wsV RX5 187 RX5 yX5_hours wsX5_hours) := goodIn_app (goodIn_of _ (by decide +kernel)) ggX5_digest_X5_hours
set_option maxRecDepth 20000 in
theorem ggX5_digest_X5_ask : GoodIn wsX5_digest wsX5_ask := goodIn_r _ [203, 13, 169, 8, 126, 127, 6, 128, 18, 19, 20, 118, 119, 120, 121, 161, 162, 163, 164, 21, 22, 23, 24, 25, 26, 27, 28, 29, 30, 31, 32, 33, 34, 35, 36, 37, 38, 39, 40, 41, 42, 43, 44, 45, 46, 47, 48, 49, 50, 51, 52, 53, 54, 55, 56, 57, 58, 59, 60, 165, 166, 167, 168, 170, 171, 172, 173, 174, 175, 176, 177, 178, 179, 180, 181, 182, 183, 184, 148, 149, 150, 151, 152, 153, 154, 155, 156, 185, 186, 187, 188, 189, 190, 191, 192, 193, 194, 76, 77, 78, 79, 80, 81, 82, 83, 66, 67, 68, 69, 70, 71, 61, 62, 63, 64, 65, 84, 85, 86, 87, 88, 89, 90, 91, 92, 93, 94, 195, 196, 197, 198, 199, 204, 205, 206, 207, 208, 209, 210, 211, 212, 235, 236, 237, 238, 239, 240, 241, 242, 243, 244, 245, 246, 247, 248, 249, 250, 251, 252, 253, 254, 255, 256] (by decide +kernel) (by decide +kernel)
set_option maxRecDepth 20000 in
theorem gX5_digest_X5_ask : GoodIn wsX5_digest (wsV RX5 227 RX5 yX5_ask wsX5_ask) := goodIn_app (goodIn_of _ (by decide +kernel)) ggX5_digest_X5_ask
set_option maxRecDepth 20000 in
theorem ggX5_digest_X2_size : GoodIn wsX5_digest wsX2_size := goodIn_r _ [217, 218, 257, 258] (by decide +kernel) (by decide +kernel)
set_option maxRecDepth 20000 in
theorem gX5_digest_X2_size : GoodIn wsX5_digest (wsV RX5 48 RX2 yX2_size wsX2_size) := goodIn_app (goodIn_of _ (by decide +kernel)) ggX5_digest_X2_size
set_option maxRecDepth 20000 in
theorem ggX5_digest_X2_at : GoodIn wsX5_digest wsX2_at := goodIn_r _ [222, 218, 223, 19, 6, 20, 257, 258] (by decide +kernel) (by decide +kernel)
set_option maxRecDepth 20000 in
theorem gX5_digest_X2_at : GoodIn wsX5_digest (wsV RX5 72 RX2 yX2_at wsX2_at) := goodIn_app (goodIn_of _ (by decide +kernel)) ggX5_digest_X2_at
set_option maxRecDepth 20000 in
theorem ggX5_digest_X5_count : GoodIn wsX5_digest wsX5_count := goodIn_r _ [227, 8, 13, 26, 228, 169, 2, 229, 33, 34, 35, 36, 37, 38, 21, 22, 23, 6, 24, 25, 27, 28, 29, 30, 31, 32, 39, 40, 41, 42, 43, 44, 45, 46, 47, 19, 20, 48, 49, 50, 51, 52, 53, 54, 55, 56, 57, 58, 59, 60, 230, 231, 232, 233, 234, 85, 86, 87, 88, 82, 83, 157, 158, 159, 160, 72, 73, 74, 75, 76, 77, 78, 79, 80, 81, 66, 67, 68, 69, 70, 71, 61, 62, 63, 64, 65, 18, 84, 89, 90, 91, 92, 93, 94, 170, 171, 172, 173, 174, 175, 213, 214, 215, 216, 217, 218, 235, 236, 237, 238, 239, 240, 241, 242, 243, 244, 245, 246, 247, 249, 250, 251, 248, 252, 253, 254, 255, 256, 257, 258] (by decide +kernel) (by decide +kernel)
set_option maxRecDepth 20000 in
theorem gX5_digest_X5_count : GoodIn wsX5_digest (wsV RX5 230 RX5 yX5_count wsX5_count) := goodIn_app (goodIn_of _ (by decide +kernel)) ggX5_digest_X5_count
theorem dX5_digest_0 : decode cX5_digest 0 = .ok (.aload_n 0, 1) := by decide +kernel
theorem dX5_digest_1 : decode cX5_digest 1 = .ok (.ldc2_w 204, 3) := by decide +kernel
theorem dX5_digest_4 : decode cX5_digest 4 = .ok (.invokevirtual 206, 3) := by decide +kernel
theorem dX5_digest_7 : decode cX5_digest 7 = .ok (.lstore_n 1, 1) := by decide +kernel
theorem dX5_digest_8 : decode cX5_digest 8 = .ok (.aload_n 0, 1) := by decide +kernel
theorem dX5_digest_9 : decode cX5_digest 9 = .ok (.lload_n 1, 1) := by decide +kernel
theorem dX5_digest_10 : decode cX5_digest 10 = .ok (.invokevirtual 210, 3) := by decide +kernel
theorem dX5_digest_13 : decode cX5_digest 13 = .ok (.lstore_n 1, 1) := by decide +kernel
theorem dX5_digest_14 : decode cX5_digest 14 = .ok (.aload_n 0, 1) := by decide +kernel
theorem dX5_digest_15 : decode cX5_digest 15 = .ok (.invokevirtual 134, 3) := by decide +kernel
theorem dX5_digest_18 : decode cX5_digest 18 = .ok (.ifCond .eq 88, 3) := by decide +kernel
theorem dX5_digest_21 : decode cX5_digest 21 = .ok (.iconst 0, 1) := by decide +kernel
theorem dX5_digest_22 : decode cX5_digest 22 = .ok (.istore_n 3, 1) := by decide +kernel
theorem dX5_digest_23 : decode cX5_digest 23 = .ok (.iload_n 3, 1) := by decide +kernel
theorem dX5_digest_24 : decode cX5_digest 24 = .ok (.bipush 12, 2) := by decide +kernel
theorem dX5_digest_26 : decode cX5_digest 26 = .ok (.if_icmp .ge 20, 3) := by decide +kernel
theorem dX5_digest_29 : decode cX5_digest 29 = .ok (.lload_n 1, 1) := by decide +kernel
theorem dX5_digest_30 : decode cX5_digest 30 = .ok (.aload_n 0, 1) := by decide +kernel
theorem dX5_digest_31 : decode cX5_digest 31 = .ok (.iload_n 3, 1) := by decide +kernel
theorem dX5_digest_32 : decode cX5_digest 32 = .ok (.invokevirtual 213, 3) := by decide +kernel
theorem dX5_digest_35 : decode cX5_digest 35 = .ok (.i2l, 1) := by decide +kernel
theorem dX5_digest_36 : decode cX5_digest 36 = .ok (.invokestatic 216, 3) := by decide +kernel
theorem dX5_digest_39 : decode cX5_digest 39 = .ok (.lstore_n 1, 1) := by decide +kernel
theorem dX5_digest_40 : decode cX5_digest 40 = .ok (.iinc 3 1, 3) := by decide +kernel
theorem dX5_digest_43 : decode cX5_digest 43 = .ok (.goto (-20), 3) := by decide +kernel
theorem dX5_digest_46 : decode cX5_digest 46 = .ok (.lload_n 1, 1) := by decide +kernel
theorem dX5_digest_47 : decode cX5_digest 47 = .ok (.aload_n 0, 1) := by decide +kernel
theorem dX5_digest_48 : decode cX5_digest 48 = .ok (.aload_n 0, 1) := by decide +kernel
theorem dX5_digest_49 : decode cX5_digest 49 = .ok (.invokevirtual 157, 3) := by decide +kernel
theorem dX5_digest_52 : decode cX5_digest 52 = .ok (.iconst 2, 1) := by decide +kernel
theorem dX5_digest_53 : decode cX5_digest 53 = .ok (.invokevirtual 220, 3) := by decide +kernel
theorem dX5_digest_56 : decode cX5_digest 56 = .ok (.i2l, 1) := by decide +kernel
theorem dX5_digest_57 : decode cX5_digest 57 = .ok (.invokestatic 216, 3) := by decide +kernel
theorem dX5_digest_60 : decode cX5_digest 60 = .ok (.lstore_n 1, 1) := by decide +kernel
theorem dX5_digest_61 : decode cX5_digest 61 = .ok (.lload_n 1, 1) := by decide +kernel
theorem dX5_digest_62 : decode cX5_digest 62 = .ok (.aload_n 0, 1) := by decide +kernel
theorem dX5_digest_63 : decode cX5_digest 63 = .ok (.iconst 5, 1) := by decide +kernel
theorem dX5_digest_64 : decode cX5_digest 64 = .ok (.iconst 0, 1) := by decide +kernel
theorem dX5_digest_65 : decode cX5_digest 65 = .ok (.invokevirtual 224, 3) := by decide +kernel
theorem dX5_digest_68 : decode cX5_digest 68 = .ok (.i2l, 1) := by decide +kernel
theorem dX5_digest_69 : decode cX5_digest 69 = .ok (.invokestatic 216, 3) := by decide +kernel
theorem dX5_digest_72 : decode cX5_digest 72 = .ok (.lstore_n 1, 1) := by decide +kernel
theorem dX5_digest_73 : decode cX5_digest 73 = .ok (.lload_n 1, 1) := by decide +kernel
theorem dX5_digest_74 : decode cX5_digest 74 = .ok (.aload_n 0, 1) := by decide +kernel
theorem dX5_digest_75 : decode cX5_digest 75 = .ok (.iconst 5, 1) := by decide +kernel
theorem dX5_digest_76 : decode cX5_digest 76 = .ok (.iconst 1, 1) := by decide +kernel
theorem dX5_digest_77 : decode cX5_digest 77 = .ok (.invokevirtual 224, 3) := by decide +kernel
theorem dX5_digest_80 : decode cX5_digest 80 = .ok (.i2l, 1) := by decide +kernel
theorem dX5_digest_81 : decode cX5_digest 81 = .ok (.invokestatic 216, 3) := by decide +kernel
theorem dX5_digest_84 : decode cX5_digest 84 = .ok (.lstore_n 1, 1) := by decide +kernel
theorem dX5_digest_85 : decode cX5_digest 85 = .ok (.lload_n 1, 1) := by decide +kernel
theorem dX5_digest_86 : decode cX5_digest 86 = .ok (.aload_n 0, 1) := by decide +kernel
theorem dX5_digest_87 : decode cX5_digest 87 = .ok (.invokevirtual 187, 3) := by decide +kernel
theorem dX5_digest_90 : decode cX5_digest 90 = .ok (.i2l, 1) := by decide +kernel
theorem dX5_digest_91 : decode cX5_digest 91 = .ok (.invokestatic 216, 3) := by decide +kernel
theorem dX5_digest_94 : decode cX5_digest 94 = .ok (.lstore_n 1, 1) := by decide +kernel
theorem dX5_digest_95 : decode cX5_digest 95 = .ok (.lload_n 1, 1) := by decide +kernel
theorem dX5_digest_96 : decode cX5_digest 96 = .ok (.aload_n 0, 1) := by decide +kernel
theorem dX5_digest_97 : decode cX5_digest 97 = .ok (.iconst 4, 1) := by decide +kernel
theorem dX5_digest_98 : decode cX5_digest 98 = .ok (.invokevirtual 227, 3) := by decide +kernel
theorem dX5_digest_101 : decode cX5_digest 101 = .ok (.i2l, 1) := by decide +kernel
theorem dX5_digest_102 : decode cX5_digest 102 = .ok (.invokestatic 216, 3) := by decide +kernel
theorem dX5_digest_105 : decode cX5_digest 105 = .ok (.lstore_n 1, 1) := by decide +kernel
theorem dX5_digest_106 : decode cX5_digest 106 = .ok (.iconst 0, 1) := by decide +kernel
theorem dX5_digest_107 : decode cX5_digest 107 = .ok (.istore_n 3, 1) := by decide +kernel
theorem dX5_digest_108 : decode cX5_digest 108 = .ok (.iload_n 3, 1) := by decide +kernel
theorem dX5_digest_109 : decode cX5_digest 109 = .ok (.aload_n 0, 1) := by decide +kernel
theorem dX5_digest_110 : decode cX5_digest 110 = .ok (.getfield 10, 3) := by decide +kernel
theorem dX5_digest_113 : decode cX5_digest 113 = .ok (.invokevirtual 48, 3) := by decide +kernel
theorem dX5_digest_116 : decode cX5_digest 116 = .ok (.if_icmp .ge 23, 3) := by decide +kernel
theorem dX5_digest_119 : decode cX5_digest 119 = .ok (.lload_n 1, 1) := by decide +kernel
theorem dX5_digest_120 : decode cX5_digest 120 = .ok (.aload_n 0, 1) := by decide +kernel
theorem dX5_digest_121 : decode cX5_digest 121 = .ok (.getfield 10, 3) := by decide +kernel
theorem dX5_digest_124 : decode cX5_digest 124 = .ok (.iload_n 3, 1) := by decide +kernel
theorem dX5_digest_125 : decode cX5_digest 125 = .ok (.invokevirtual 72, 3) := by decide +kernel
theorem dX5_digest_128 : decode cX5_digest 128 = .ok (.i2l, 1) := by decide +kernel
theorem dX5_digest_129 : decode cX5_digest 129 = .ok (.invokestatic 216, 3) := by decide +kernel
theorem dX5_digest_132 : decode cX5_digest 132 = .ok (.lstore_n 1, 1) := by decide +kernel
theorem dX5_digest_133 : decode cX5_digest 133 = .ok (.iinc 3 1, 3) := by decide +kernel
theorem dX5_digest_136 : decode cX5_digest 136 = .ok (.goto (-28), 3) := by decide +kernel
theorem dX5_digest_139 : decode cX5_digest 139 = .ok (.iconst 0, 1) := by decide +kernel
theorem dX5_digest_140 : decode cX5_digest 140 = .ok (.istore_n 3, 1) := by decide +kernel
theorem dX5_digest_141 : decode cX5_digest 141 = .ok (.iload_n 3, 1) := by decide +kernel
theorem dX5_digest_142 : decode cX5_digest 142 = .ok (.bipush 8, 2) := by decide +kernel
theorem dX5_digest_144 : decode cX5_digest 144 = .ok (.if_icmp .gt 20, 3) := by decide +kernel
theorem dX5_digest_147 : decode cX5_digest 147 = .ok (.lload_n 1, 1) := by decide +kernel
theorem dX5_digest_148 : decode cX5_digest 148 = .ok (.aload_n 0, 1) := by decide +kernel
theorem dX5_digest_149 : decode cX5_digest 149 = .ok (.iload_n 3, 1) := by decide +kernel
theorem dX5_digest_150 : decode cX5_digest 150 = .ok (.invokevirtual 230, 3) := by decide +kernel
theorem dX5_digest_153 : decode cX5_digest 153 = .ok (.i2l, 1) := by decide +kernel
theorem dX5_digest_154 : decode cX5_digest 154 = .ok (.invokestatic 216, 3) := by decide +kernel
theorem dX5_digest_157 : decode cX5_digest 157 = .ok (.lstore_n 1, 1) := by decide +kernel
theorem dX5_digest_158 : decode cX5_digest 158 = .ok (.iinc 3 1, 3) := by decide +kernel
theorem dX5_digest_161 : decode cX5_digest 161 = .ok (.goto (-20), 3) := by decide +kernel
theorem dX5_digest_164 : decode cX5_digest 164 = .ok (.lload_n 1, 1) := by decide +kernel
theorem dX5_digest_165 : decode cX5_digest 165 = .ok (.lreturn, 1) := by decide +kernel
set_option maxRecDepth 20000 in
theorem ggX5_digestHouses_X5_about : GoodIn wsX5_digestHouses wsX5_about := goodIn_r _ [6, 7, 8, 9, 10, 5, 11, 1, 12, 13, 14, 15, 16, 17, 18, 19, 20, 21, 22, 23, 24, 25, 26, 27, 28, 29, 30, 31, 32, 33, 34, 35, 36, 37, 38, 39, 40, 41, 42, 43, 44, 45, 46, 47, 48, 49, 50, 51, 52, 53, 54, 55, 56, 57, 58, 59, 60, 61, 62, 63, 64, 65, 66, 67, 68, 69, 70, 71, 72, 73, 74, 75, 76, 77, 78, 79, 80, 81, 82, 83, 84, 85, 86, 87, 88, 89, 90, 91, 92, 97, 98, 99, 100, 101, 102, 103, 104, 105, 106, 107, 108, 109, 110, 111, 112, 113] (by decide +kernel) (by decide +kernel)
set_option maxRecDepth 20000 in
theorem gX5_digestHouses_X5_about : GoodIn wsX5_digestHouses (wsV RX5 233 RX5 yX5_about wsX5_about) := goodIn_app (goodIn_of _ (by decide +kernel)) ggX5_digestHouses_X5_about
set_option maxRecDepth 20000 in
theorem ggX5_digestHouses_X5_mix : GoodIn wsX5_digestHouses wsX5_mix := goodIn_r _ [95, 96] (by decide +kernel) (by decide +kernel)
set_option maxRecDepth 20000 in
theorem gX5_digestHouses_X5_mix : GoodIn wsX5_digestHouses (va_wsS RX5 216 yX5_mix wsX5_mix) := goodIn_app (goodIn_of _ (by decide +kernel)) ggX5_digestHouses_X5_mix
theorem dX5_digestHouses_0 : decode cX5_digestHouses 0 = .ok (.lload_n 1, 1) := by decide +kernel
theorem dX5_digestHouses_1 : decode cX5_digestHouses 1 = .ok (.lstore_n 3, 1) := by decide +kernel
theorem dX5_digestHouses_2 : decode cX5_digestHouses 2 = .ok (.iconst 0, 1) := by decide +kernel
theorem dX5_digestHouses_3 : decode cX5_digestHouses 3 = .ok (.istore 5, 2) := by decide +kernel
theorem dX5_digestHouses_5 : decode cX5_digestHouses 5 = .ok (.iload 5, 2) := by decide +kernel
theorem dX5_digestHouses_7 : decode cX5_digestHouses 7 = .ok (.aload_n 0, 1) := by decide +kernel
theorem dX5_digestHouses_8 : decode cX5_digestHouses 8 = .ok (.getfield 65, 3) := by decide +kernel
theorem dX5_digestHouses_11 : decode cX5_digestHouses 11 = .ok (.if_icmp .ge 71, 3) := by decide +kernel
theorem dX5_digestHouses_14 : decode cX5_digestHouses 14 = .ok (.iconst 0, 1) := by decide +kernel
theorem dX5_digestHouses_15 : decode cX5_digestHouses 15 = .ok (.istore 6, 2) := by decide +kernel
theorem dX5_digestHouses_17 : decode cX5_digestHouses 17 = .ok (.iload 6, 2) := by decide +kernel
theorem dX5_digestHouses_19 : decode cX5_digestHouses 19 = .ok (.iconst 4, 1) := by decide +kernel
theorem dX5_digestHouses_20 : decode cX5_digestHouses 20 = .ok (.if_icmp .gt 23, 3) := by decide +kernel
theorem dX5_digestHouses_23 : decode cX5_digestHouses 23 = .ok (.lload_n 3, 1) := by decide +kernel
theorem dX5_digestHouses_24 : decode cX5_digestHouses 24 = .ok (.aload_n 0, 1) := by decide +kernel
theorem dX5_digestHouses_25 : decode cX5_digestHouses 25 = .ok (.iload 5, 2) := by decide +kernel
theorem dX5_digestHouses_27 : decode cX5_digestHouses 27 = .ok (.iload 6, 2) := by decide +kernel
theorem dX5_digestHouses_29 : decode cX5_digestHouses 29 = .ok (.invokevirtual 233, 3) := by decide +kernel
theorem dX5_digestHouses_32 : decode cX5_digestHouses 32 = .ok (.i2l, 1) := by decide +kernel
theorem dX5_digestHouses_33 : decode cX5_digestHouses 33 = .ok (.invokestatic 216, 3) := by decide +kernel
theorem dX5_digestHouses_36 : decode cX5_digestHouses 36 = .ok (.lstore_n 3, 1) := by decide +kernel
theorem dX5_digestHouses_37 : decode cX5_digestHouses 37 = .ok (.iinc 6 1, 3) := by decide +kernel
theorem dX5_digestHouses_40 : decode cX5_digestHouses 40 = .ok (.goto (-23), 3) := by decide +kernel
theorem dX5_digestHouses_43 : decode cX5_digestHouses 43 = .ok (.iconst 0, 1) := by decide +kernel
theorem dX5_digestHouses_44 : decode cX5_digestHouses 44 = .ok (.istore 6, 2) := by decide +kernel
theorem dX5_digestHouses_46 : decode cX5_digestHouses 46 = .ok (.iload 6, 2) := by decide +kernel
theorem dX5_digestHouses_48 : decode cX5_digestHouses 48 = .ok (.bipush 12, 2) := by decide +kernel
theorem dX5_digestHouses_50 : decode cX5_digestHouses 50 = .ok (.if_icmp .ge 26, 3) := by decide +kernel
theorem dX5_digestHouses_53 : decode cX5_digestHouses 53 = .ok (.lload_n 3, 1) := by decide +kernel
theorem dX5_digestHouses_54 : decode cX5_digestHouses 54 = .ok (.aload_n 0, 1) := by decide +kernel
theorem dX5_digestHouses_55 : decode cX5_digestHouses 55 = .ok (.iload 5, 2) := by decide +kernel
theorem dX5_digestHouses_57 : decode cX5_digestHouses 57 = .ok (.bipush 10, 2) := by decide +kernel
theorem dX5_digestHouses_59 : decode cX5_digestHouses 59 = .ok (.iload 6, 2) := by decide +kernel
theorem dX5_digestHouses_61 : decode cX5_digestHouses 61 = .ok (.iadd, 1) := by decide +kernel
theorem dX5_digestHouses_62 : decode cX5_digestHouses 62 = .ok (.invokevirtual 233, 3) := by decide +kernel
theorem dX5_digestHouses_65 : decode cX5_digestHouses 65 = .ok (.i2l, 1) := by decide +kernel
theorem dX5_digestHouses_66 : decode cX5_digestHouses 66 = .ok (.invokestatic 216, 3) := by decide +kernel
theorem dX5_digestHouses_69 : decode cX5_digestHouses 69 = .ok (.lstore_n 3, 1) := by decide +kernel
theorem dX5_digestHouses_70 : decode cX5_digestHouses 70 = .ok (.iinc 6 1, 3) := by decide +kernel
theorem dX5_digestHouses_73 : decode cX5_digestHouses 73 = .ok (.goto (-27), 3) := by decide +kernel
theorem dX5_digestHouses_76 : decode cX5_digestHouses 76 = .ok (.iinc 5 1, 3) := by decide +kernel
theorem dX5_digestHouses_79 : decode cX5_digestHouses 79 = .ok (.goto (-74), 3) := by decide +kernel
theorem dX5_digestHouses_82 : decode cX5_digestHouses 82 = .ok (.lload_n 3, 1) := by decide +kernel
theorem dX5_digestHouses_83 : decode cX5_digestHouses 83 = .ok (.lreturn, 1) := by decide +kernel
set_option maxRecDepth 20000 in
theorem ggX5_digestStrokes_X3_size : GoodIn wsX5_digestStrokes wsX3_size := goodIn_r _ [7, 8, 54, 55, 56] (by decide +kernel) (by decide +kernel)
set_option maxRecDepth 20000 in
theorem gX5_digestStrokes_X3_size : GoodIn wsX5_digestStrokes (wsV RX5 141 RX3 yX3_size wsX3_size) := goodIn_app (goodIn_of _ (by decide +kernel)) ggX5_digestStrokes_X3_size
set_option maxRecDepth 20000 in
theorem ggX5_digestStrokes_X5_stroke : GoodIn wsX5_digestStrokes wsX5_stroke := goodIn_r _ [13, 1, 2, 14, 15, 16, 6, 17, 8, 18, 12, 19, 20, 21, 22, 23, 24, 25, 26, 27, 28, 29, 30, 31, 32, 33, 34, 35, 36, 41, 42, 43, 44, 45, 46, 47, 48, 49, 50, 51, 52, 53, 54, 55, 56] (by decide +kernel) (by decide +kernel)
set_option maxRecDepth 20000 in
theorem gX5_digestStrokes_X5_stroke : GoodIn wsX5_digestStrokes (wsV RX5 236 RX5 yX5_stroke wsX5_stroke) := goodIn_app (goodIn_of _ (by decide +kernel)) ggX5_digestStrokes_X5_stroke
set_option maxRecDepth 20000 in
theorem ggX5_digestStrokes_X5_mix : GoodIn wsX5_digestStrokes wsX5_mix := goodIn_r _ [39, 40] (by decide +kernel) (by decide +kernel)
set_option maxRecDepth 20000 in
theorem gX5_digestStrokes_X5_mix : GoodIn wsX5_digestStrokes (va_wsS RX5 216 yX5_mix wsX5_mix) := goodIn_app (goodIn_of _ (by decide +kernel)) ggX5_digestStrokes_X5_mix
theorem dX5_digestStrokes_0 : decode cX5_digestStrokes 0 = .ok (.lload_n 1, 1) := by decide +kernel
theorem dX5_digestStrokes_1 : decode cX5_digestStrokes 1 = .ok (.lstore_n 3, 1) := by decide +kernel
theorem dX5_digestStrokes_2 : decode cX5_digestStrokes 2 = .ok (.iconst 0, 1) := by decide +kernel
theorem dX5_digestStrokes_3 : decode cX5_digestStrokes 3 = .ok (.istore 5, 2) := by decide +kernel
theorem dX5_digestStrokes_5 : decode cX5_digestStrokes 5 = .ok (.iload 5, 2) := by decide +kernel
theorem dX5_digestStrokes_7 : decode cX5_digestStrokes 7 = .ok (.aload_n 0, 1) := by decide +kernel
theorem dX5_digestStrokes_8 : decode cX5_digestStrokes 8 = .ok (.getfield 23, 3) := by decide +kernel
theorem dX5_digestStrokes_11 : decode cX5_digestStrokes 11 = .ok (.getfield 86, 3) := by decide +kernel
theorem dX5_digestStrokes_14 : decode cX5_digestStrokes 14 = .ok (.invokevirtual 141, 3) := by decide +kernel
theorem dX5_digestStrokes_17 : decode cX5_digestStrokes 17 = .ok (.if_icmp .ge 38, 3) := by decide +kernel
theorem dX5_digestStrokes_20 : decode cX5_digestStrokes 20 = .ok (.iconst 0, 1) := by decide +kernel
theorem dX5_digestStrokes_21 : decode cX5_digestStrokes 21 = .ok (.istore 6, 2) := by decide +kernel
theorem dX5_digestStrokes_23 : decode cX5_digestStrokes 23 = .ok (.iload 6, 2) := by decide +kernel
theorem dX5_digestStrokes_25 : decode cX5_digestStrokes 25 = .ok (.iconst 2, 1) := by decide +kernel
theorem dX5_digestStrokes_26 : decode cX5_digestStrokes 26 = .ok (.if_icmp .gt 23, 3) := by decide +kernel
theorem dX5_digestStrokes_29 : decode cX5_digestStrokes 29 = .ok (.lload_n 3, 1) := by decide +kernel
theorem dX5_digestStrokes_30 : decode cX5_digestStrokes 30 = .ok (.aload_n 0, 1) := by decide +kernel
theorem dX5_digestStrokes_31 : decode cX5_digestStrokes 31 = .ok (.iload 5, 2) := by decide +kernel
theorem dX5_digestStrokes_33 : decode cX5_digestStrokes 33 = .ok (.iload 6, 2) := by decide +kernel
theorem dX5_digestStrokes_35 : decode cX5_digestStrokes 35 = .ok (.invokevirtual 236, 3) := by decide +kernel
theorem dX5_digestStrokes_38 : decode cX5_digestStrokes 38 = .ok (.i2l, 1) := by decide +kernel
theorem dX5_digestStrokes_39 : decode cX5_digestStrokes 39 = .ok (.invokestatic 216, 3) := by decide +kernel
theorem dX5_digestStrokes_42 : decode cX5_digestStrokes 42 = .ok (.lstore_n 3, 1) := by decide +kernel
theorem dX5_digestStrokes_43 : decode cX5_digestStrokes 43 = .ok (.iinc 6 1, 3) := by decide +kernel
theorem dX5_digestStrokes_46 : decode cX5_digestStrokes 46 = .ok (.goto (-23), 3) := by decide +kernel
theorem dX5_digestStrokes_49 : decode cX5_digestStrokes 49 = .ok (.iinc 5 1, 3) := by decide +kernel
theorem dX5_digestStrokes_52 : decode cX5_digestStrokes 52 = .ok (.goto (-47), 3) := by decide +kernel
theorem dX5_digestStrokes_55 : decode cX5_digestStrokes 55 = .ok (.lload_n 3, 1) := by decide +kernel
theorem dX5_digestStrokes_56 : decode cX5_digestStrokes 56 = .ok (.lreturn, 1) := by decide +kernel
theorem dX5_mix_0 : decode cX5_mix 0 = .ok (.ldc2_w 239, 3) := by decide +kernel
theorem dX5_mix_3 : decode cX5_mix 3 = .ok (.lload_n 0, 1) := by decide +kernel
theorem dX5_mix_4 : decode cX5_mix 4 = .ok (.lmul, 1) := by decide +kernel
theorem dX5_mix_5 : decode cX5_mix 5 = .ok (.lload_n 2, 1) := by decide +kernel
theorem dX5_mix_6 : decode cX5_mix 6 = .ok (.ladd, 1) := by decide +kernel
theorem dX5_mix_7 : decode cX5_mix 7 = .ok (.lreturn, 1) := by decide +kernel
theorem dX5_isWithin_0 : decode cX5_isWithin 0 = .ok (.iload_n 0, 1) := by decide +kernel
theorem dX5_isWithin_1 : decode cX5_isWithin 1 = .ok (.iload_n 1, 1) := by decide +kernel
theorem dX5_isWithin_2 : decode cX5_isWithin 2 = .ok (.if_icmp .lt 12, 3) := by decide +kernel
theorem dX5_isWithin_5 : decode cX5_isWithin 5 = .ok (.iload_n 0, 1) := by decide +kernel
theorem dX5_isWithin_6 : decode cX5_isWithin 6 = .ok (.iload_n 2, 1) := by decide +kernel
theorem dX5_isWithin_7 : decode cX5_isWithin 7 = .ok (.if_icmp .gt 7, 3) := by decide +kernel
theorem dX5_isWithin_10 : decode cX5_isWithin 10 = .ok (.iconst 1, 1) := by decide +kernel
theorem dX5_isWithin_11 : decode cX5_isWithin 11 = .ok (.goto 4, 3) := by decide +kernel
theorem dX5_isWithin_14 : decode cX5_isWithin 14 = .ok (.iconst 0, 1) := by decide +kernel
theorem dX5_isWithin_15 : decode cX5_isWithin 15 = .ok (.ireturn, 1) := by decide +kernel
set_option maxRecDepth 20000 in
theorem ggX5_isHourOfDay_X5_isWithin : GoodIn wsX5_isHourOfDay wsX5_isWithin := goodIn_r _ [4] (by decide +kernel) (by decide +kernel)
