theorem dX0_init_0 : decode cX0_init 0 = .ok (.aload_n 0, 1) := by decide +kernel
theorem dX0_init_1 : decode cX0_init 1 = .ok (.invokespecial 3, 3) := by decide +kernel
theorem dX0_init_4 : decode cX0_init 4 = .ok (.aload_n 0, 1) := by decide +kernel
theorem dX0_init_5 : decode cX0_init 5 = .ok (.lconst 0, 1) := by decide +kernel
theorem dX0_init_6 : decode cX0_init 6 = .ok (.putfield 9, 3) := by decide +kernel
theorem dX0_init_9 : decode cX0_init 9 = .ok (.aload_n 0, 1) := by decide +kernel
theorem dX0_init_10 : decode cX0_init 10 = .ok (.lconst 0, 1) := by decide +kernel
theorem dX0_init_11 : decode cX0_init 11 = .ok (.putfield 15, 3) := by decide +kernel
theorem dX0_init_14 : decode cX0_init 14 = .ok (.aload_n 0, 1) := by decide +kernel
theorem dX0_init_15 : decode cX0_init 15 = .ok (.ldc2_w 18, 3) := by decide +kernel
theorem dX0_init_18 : decode cX0_init 18 = .ok (.putfield 20, 3) := by decide +kernel
theorem dX0_init_21 : decode cX0_init 21 = .ok (.aload_n 0, 1) := by decide +kernel
theorem dX0_init_22 : decode cX0_init 22 = .ok (.lconst 0, 1) := by decide +kernel
theorem dX0_init_23 : decode cX0_init 23 = .ok (.putfield 23, 3) := by decide +kernel
theorem dX0_init_26 : decode cX0_init 26 = .ok (.aload_n 0, 1) := by decide +kernel
theorem dX0_init_27 : decode cX0_init 27 = .ok (.ldc2_w 18, 3) := by decide +kernel
theorem dX0_init_30 : decode cX0_init 30 = .ok (.putfield 26, 3) := by decide +kernel
theorem dX0_init_33 : decode cX0_init 33 = .ok (.aload_n 0, 1) := by decide +kernel
theorem dX0_init_34 : decode cX0_init 34 = .ok (.ldc2_w 29, 3) := by decide +kernel
theorem dX0_init_37 : decode cX0_init 37 = .ok (.putfield 31, 3) := by decide +kernel
theorem dX0_init_40 : decode cX0_init 40 = .ok (.aload_n 0, 1) := by decide +kernel
theorem dX0_init_41 : decode cX0_init 41 = .ok (.ldc2_w 29, 3) := by decide +kernel
theorem dX0_init_44 : decode cX0_init 44 = .ok (.putfield 34, 3) := by decide +kernel
theorem dX0_init_47 : decode cX0_init 47 = .ok (.aload_n 0, 1) := by decide +kernel
theorem dX0_init_48 : decode cX0_init 48 = .ok (.ldc2_w 29, 3) := by decide +kernel
theorem dX0_init_51 : decode cX0_init 51 = .ok (.putfield 37, 3) := by decide +kernel
theorem dX0_init_54 : decode cX0_init 54 = .ok (.return_, 1) := by decide +kernel
theorem dX0_startFrom_0 : decode cX0_startFrom 0 = .ok (.aload_n 0, 1) := by decide +kernel
theorem dX0_startFrom_1 : decode cX0_startFrom 1 = .ok (.iload_n 1, 1) := by decide +kernel
theorem dX0_startFrom_2 : decode cX0_startFrom 2 = .ok (.i2l, 1) := by decide +kernel
theorem dX0_startFrom_3 : decode cX0_startFrom 3 = .ok (.putfield 9, 3) := by decide +kernel
theorem dX0_startFrom_6 : decode cX0_startFrom 6 = .ok (.aload_n 0, 1) := by decide +kernel
theorem dX0_startFrom_7 : decode cX0_startFrom 7 = .ok (.iload_n 2, 1) := by decide +kernel
theorem dX0_startFrom_8 : decode cX0_startFrom 8 = .ok (.i2l, 1) := by decide +kernel
theorem dX0_startFrom_9 : decode cX0_startFrom 9 = .ok (.putfield 15, 3) := by decide +kernel
theorem dX0_startFrom_12 : decode cX0_startFrom 12 = .ok (.aload_n 0, 1) := by decide +kernel
theorem dX0_startFrom_13 : decode cX0_startFrom 13 = .ok (.iload_n 3, 1) := by decide +kernel
theorem dX0_startFrom_14 : decode cX0_startFrom 14 = .ok (.i2l, 1) := by decide +kernel
theorem dX0_startFrom_15 : decode cX0_startFrom 15 = .ok (.putfield 20, 3) := by decide +kernel
theorem dX0_startFrom_18 : decode cX0_startFrom 18 = .ok (.aload_n 0, 1) := by decide +kernel
theorem dX0_startFrom_19 : decode cX0_startFrom 19 = .ok (.lconst 0, 1) := by decide +kernel
theorem dX0_startFrom_20 : decode cX0_startFrom 20 = .ok (.putfield 23, 3) := by decide +kernel
theorem dX0_startFrom_23 : decode cX0_startFrom 23 = .ok (.aload_n 0, 1) := by decide +kernel
theorem dX0_startFrom_24 : decode cX0_startFrom 24 = .ok (.iload 4, 2) := by decide +kernel
theorem dX0_startFrom_26 : decode cX0_startFrom 26 = .ok (.i2l, 1) := by decide +kernel
theorem dX0_startFrom_27 : decode cX0_startFrom 27 = .ok (.putfield 26, 3) := by decide +kernel
theorem dX0_startFrom_30 : decode cX0_startFrom 30 = .ok (.aload_n 0, 1) := by decide +kernel
theorem dX0_startFrom_31 : decode cX0_startFrom 31 = .ok (.ldc2_w 29, 3) := by decide +kernel
theorem dX0_startFrom_34 : decode cX0_startFrom 34 = .ok (.putfield 31, 3) := by decide +kernel
theorem dX0_startFrom_37 : decode cX0_startFrom 37 = .ok (.aload_n 0, 1) := by decide +kernel
theorem dX0_startFrom_38 : decode cX0_startFrom 38 = .ok (.ldc2_w 29, 3) := by decide +kernel
theorem dX0_startFrom_41 : decode cX0_startFrom 41 = .ok (.putfield 34, 3) := by decide +kernel
theorem dX0_startFrom_44 : decode cX0_startFrom 44 = .ok (.aload_n 0, 1) := by decide +kernel
theorem dX0_startFrom_45 : decode cX0_startFrom 45 = .ok (.ldc2_w 29, 3) := by decide +kernel
theorem dX0_startFrom_48 : decode cX0_startFrom 48 = .ok (.putfield 37, 3) := by decide +kernel
theorem dX0_startFrom_51 : decode cX0_startFrom 51 = .ok (.return_, 1) := by decide +kernel
theorem dX0_copyFrom_0 : decode cX0_copyFrom 0 = .ok (.aload_n 0, 1) := by decide +kernel
theorem dX0_copyFrom_1 : decode cX0_copyFrom 1 = .ok (.aload_n 1, 1) := by decide +kernel
theorem dX0_copyFrom_2 : decode cX0_copyFrom 2 = .ok (.getfield 9, 3) := by decide +kernel
theorem dX0_copyFrom_5 : decode cX0_copyFrom 5 = .ok (.putfield 9, 3) := by decide +kernel
theorem dX0_copyFrom_8 : decode cX0_copyFrom 8 = .ok (.aload_n 0, 1) := by decide +kernel
theorem dX0_copyFrom_9 : decode cX0_copyFrom 9 = .ok (.aload_n 1, 1) := by decide +kernel
theorem dX0_copyFrom_10 : decode cX0_copyFrom 10 = .ok (.getfield 15, 3) := by decide +kernel
theorem dX0_copyFrom_13 : decode cX0_copyFrom 13 = .ok (.putfield 15, 3) := by decide +kernel
theorem dX0_copyFrom_16 : decode cX0_copyFrom 16 = .ok (.aload_n 0, 1) := by decide +kernel
theorem dX0_copyFrom_17 : decode cX0_copyFrom 17 = .ok (.aload_n 1, 1) := by decide +kernel
theorem dX0_copyFrom_18 : decode cX0_copyFrom 18 = .ok (.getfield 20, 3) := by decide +kernel
theorem dX0_copyFrom_21 : decode cX0_copyFrom 21 = .ok (.putfield 20, 3) := by decide +kernel
theorem dX0_copyFrom_24 : decode cX0_copyFrom 24 = .ok (.aload_n 0, 1) := by decide +kernel
theorem dX0_copyFrom_25 : decode cX0_copyFrom 25 = .ok (.aload_n 1, 1) := by decide +kernel
theorem dX0_copyFrom_26 : decode cX0_copyFrom 26 = .ok (.getfield 23, 3) := by decide +kernel
theorem dX0_copyFrom_29 : decode cX0_copyFrom 29 = .ok (.putfield 23, 3) := by decide +kernel
theorem dX0_copyFrom_32 : decode cX0_copyFrom 32 = .ok (.aload_n 0, 1) := by decide +kernel
theorem dX0_copyFrom_33 : decode cX0_copyFrom 33 = .ok (.aload_n 1, 1) := by decide +kernel
theorem dX0_copyFrom_34 : decode cX0_copyFrom 34 = .ok (.getfield 26, 3) := by decide +kernel
theorem dX0_copyFrom_37 : decode cX0_copyFrom 37 = .ok (.putfield 26, 3) := by decide +kernel
theorem dX0_copyFrom_40 : decode cX0_copyFrom 40 = .ok (.aload_n 0, 1) := by decide +kernel
theorem dX0_copyFrom_41 : decode cX0_copyFrom 41 = .ok (.aload_n 1, 1) := by decide +kernel
theorem dX0_copyFrom_42 : decode cX0_copyFrom 42 = .ok (.getfield 31, 3) := by decide +kernel
theorem dX0_copyFrom_45 : decode cX0_copyFrom 45 = .ok (.putfield 31, 3) := by decide +kernel
theorem dX0_copyFrom_48 : decode cX0_copyFrom 48 = .ok (.aload_n 0, 1) := by decide +kernel
theorem dX0_copyFrom_49 : decode cX0_copyFrom 49 = .ok (.aload_n 1, 1) := by decide +kernel
theorem dX0_copyFrom_50 : decode cX0_copyFrom 50 = .ok (.getfield 34, 3) := by decide +kernel
theorem dX0_copyFrom_53 : decode cX0_copyFrom 53 = .ok (.putfield 34, 3) := by decide +kernel
theorem dX0_copyFrom_56 : decode cX0_copyFrom 56 = .ok (.aload_n 0, 1) := by decide +kernel
theorem dX0_copyFrom_57 : decode cX0_copyFrom 57 = .ok (.aload_n 1, 1) := by decide +kernel
theorem dX0_copyFrom_58 : decode cX0_copyFrom 58 = .ok (.getfield 37, 3) := by decide +kernel
theorem dX0_copyFrom_61 : decode cX0_copyFrom 61 = .ok (.putfield 37, 3) := by decide +kernel
theorem dX0_copyFrom_64 : decode cX0_copyFrom 64 = .ok (.return_, 1) := by decide +kernel
theorem dX0_mean_0 : decode cX0_mean 0 = .ok (.iload_n 1, 1) := by decide +kernel
theorem dX0_mean_1 : decode cX0_mean 1 = .ok (.ifCond .ne 10, 3) := by decide +kernel
theorem dX0_mean_4 : decode cX0_mean 4 = .ok (.aload_n 0, 1) := by decide +kernel
theorem dX0_mean_5 : decode cX0_mean 5 = .ok (.getfield 9, 3) := by decide +kernel
theorem dX0_mean_8 : decode cX0_mean 8 = .ok (.goto 7, 3) := by decide +kernel
theorem dX0_mean_11 : decode cX0_mean 11 = .ok (.aload_n 0, 1) := by decide +kernel
theorem dX0_mean_12 : decode cX0_mean 12 = .ok (.getfield 15, 3) := by decide +kernel
theorem dX0_mean_15 : decode cX0_mean 15 = .ok (.lreturn, 1) := by decide +kernel
set_option maxRecDepth 20000 in
theorem ggX0_advance_X0_move : GoodIn wsX0_advance wsX0_move := goodIn_r _ [11, 12, 13, 14, 15, 1, 2, 3, 5, 6, 16, 17, 18, 19, 20, 21, 22, 23, 24, 25, 26, 27, 28] (by decide +kernel) (by decide +kernel)
set_option maxRecDepth 20000 in
theorem gX0_advance_X0_move : GoodIn wsX0_advance (wsV RX0 42 RX0 yX0_move wsX0_move) := goodIn_app (goodIn_of _ (by decide +kernel)) ggX0_advance_X0_move
theorem dX0_advance_0 : decode cX0_advance 0 = .ok (.aload_n 0, 1) := by decide +kernel
theorem dX0_advance_1 : decode cX0_advance 1 = .ok (.aload_n 0, 1) := by decide +kernel
theorem dX0_advance_2 : decode cX0_advance 2 = .ok (.getfield 9, 3) := by decide +kernel
theorem dX0_advance_5 : decode cX0_advance 5 = .ok (.aload_n 0, 1) := by decide +kernel
theorem dX0_advance_6 : decode cX0_advance 6 = .ok (.getfield 15, 3) := by decide +kernel
theorem dX0_advance_9 : decode cX0_advance 9 = .ok (.ladd, 1) := by decide +kernel
theorem dX0_advance_10 : decode cX0_advance 10 = .ok (.lload_n 1, 1) := by decide +kernel
theorem dX0_advance_11 : decode cX0_advance 11 = .ok (.ladd, 1) := by decide +kernel
theorem dX0_advance_12 : decode cX0_advance 12 = .ok (.aload_n 0, 1) := by decide +kernel
theorem dX0_advance_13 : decode cX0_advance 13 = .ok (.getfield 15, 3) := by decide +kernel
theorem dX0_advance_16 : decode cX0_advance 16 = .ok (.aload_n 0, 1) := by decide +kernel
theorem dX0_advance_17 : decode cX0_advance 17 = .ok (.getfield 20, 3) := by decide +kernel
theorem dX0_advance_20 : decode cX0_advance 20 = .ok (.ldc2_w 40, 3) := by decide +kernel
theorem dX0_advance_23 : decode cX0_advance 23 = .ok (.aload_n 0, 1) := by decide +kernel
theorem dX0_advance_24 : decode cX0_advance 24 = .ok (.getfield 23, 3) := by decide +kernel
theorem dX0_advance_27 : decode cX0_advance 27 = .ok (.lmul, 1) := by decide +kernel
theorem dX0_advance_28 : decode cX0_advance 28 = .ok (.ladd, 1) := by decide +kernel
theorem dX0_advance_29 : decode cX0_advance 29 = .ok (.aload_n 0, 1) := by decide +kernel
theorem dX0_advance_30 : decode cX0_advance 30 = .ok (.getfield 26, 3) := by decide +kernel
theorem dX0_advance_33 : decode cX0_advance 33 = .ok (.ladd, 1) := by decide +kernel
theorem dX0_advance_34 : decode cX0_advance 34 = .ok (.lload_n 3, 1) := by decide +kernel
theorem dX0_advance_35 : decode cX0_advance 35 = .ok (.ladd, 1) := by decide +kernel
theorem dX0_advance_36 : decode cX0_advance 36 = .ok (.aload_n 0, 1) := by decide +kernel
theorem dX0_advance_37 : decode cX0_advance 37 = .ok (.getfield 23, 3) := by decide +kernel
theorem dX0_advance_40 : decode cX0_advance 40 = .ok (.aload_n 0, 1) := by decide +kernel
theorem dX0_advance_41 : decode cX0_advance 41 = .ok (.getfield 26, 3) := by decide +kernel
theorem dX0_advance_44 : decode cX0_advance 44 = .ok (.ladd, 1) := by decide +kernel
theorem dX0_advance_45 : decode cX0_advance 45 = .ok (.aload_n 0, 1) := by decide +kernel
theorem dX0_advance_46 : decode cX0_advance 46 = .ok (.getfield 26, 3) := by decide +kernel
theorem dX0_advance_49 : decode cX0_advance 49 = .ok (.lload 5, 2) := by decide +kernel
theorem dX0_advance_51 : decode cX0_advance 51 = .ok (.ladd, 1) := by decide +kernel
theorem dX0_advance_52 : decode cX0_advance 52 = .ok (.invokevirtual 42, 3) := by decide +kernel
theorem dX0_advance_55 : decode cX0_advance 55 = .ok (.ireturn, 1) := by decide +kernel
set_option maxRecDepth 20000 in
theorem ggX0_take_X0_mean : GoodIn wsX0_take wsX0_mean := goodIn_r _ [15, 7, 8, 40, 41, 42, 43, 44, 45, 46, 47] (by decide +kernel) (by decide +kernel)
set_option maxRecDepth 20000 in
theorem gX0_take_X0_mean : GoodIn wsX0_take (wsV RX0 46 RX0 yX0_mean wsX0_mean) := goodIn_app (goodIn_of _ (by decide +kernel)) ggX0_take_X0_mean
set_option maxRecDepth 20000 in
theorem ggX0_take_X3_dividedBy : GoodIn wsX0_take wsX3_dividedBy := goodIn_r _ [18, 19, 20, 21, 22, 23, 24] (by decide +kernel) (by decide +kernel)
set_option maxRecDepth 20000 in
theorem gX0_take_X3_dividedBy_n50 : GoodIn wsX0_take (wsX3_dividedBy) := ggX0_take_X3_dividedBy
set_option maxRecDepth 20000 in
theorem ggX0_take_X3_isInLimit : GoodIn wsX0_take wsX3_isInLimit := goodIn_r _ [26, 27, 28] (by decide +kernel) (by decide +kernel)
set_option maxRecDepth 20000 in
theorem gX0_take_X3_isInLimit_n54 : GoodIn wsX0_take (wsX3_isInLimit) := ggX0_take_X3_isInLimit
set_option maxRecDepth 20000 in
theorem ggX0_take_X3_times : GoodIn wsX0_take wsX3_times := goodIn_r _ [30, 31, 19, 21, 22, 23, 24] (by decide +kernel) (by decide +kernel)
set_option maxRecDepth 20000 in
theorem gX0_take_X3_times_n59 : GoodIn wsX0_take (wsX3_times) := ggX0_take_X3_times
set_option maxRecDepth 20000 in
theorem ggX0_take_X0_move : GoodIn wsX0_take wsX0_move := goodIn_r _ [35, 36, 37, 38, 39, 7, 8, 1, 2, 3, 25, 17, 26, 27, 28, 40, 41, 42, 43, 44, 45, 46, 47] (by decide +kernel) (by decide +kernel)
set_option maxRecDepth 20000 in
theorem gX0_take_X0_move : GoodIn wsX0_take (wsV RX0 42 RX0 yX0_move wsX0_move) := goodIn_app (goodIn_of _ (by decide +kernel)) ggX0_take_X0_move
theorem dX0_take_0 : decode cX0_take 0 = .ok (.iload_n 3, 1) := by decide +kernel
theorem dX0_take_1 : decode cX0_take 1 = .ok (.ifCond .ne 7, 3) := by decide +kernel
theorem dX0_take_4 : decode cX0_take 4 = .ok (.iconst 1, 1) := by decide +kernel
theorem dX0_take_5 : decode cX0_take 5 = .ok (.goto 4, 3) := by decide +kernel
theorem dX0_take_8 : decode cX0_take 8 = .ok (.iconst 0, 1) := by decide +kernel
theorem dX0_take_9 : decode cX0_take 9 = .ok (.istore 8, 2) := by decide +kernel
theorem dX0_take_11 : decode cX0_take 11 = .ok (.iload 8, 2) := by decide +kernel
theorem dX0_take_13 : decode cX0_take 13 = .ok (.ifCond .eq 10, 3) := by decide +kernel
theorem dX0_take_16 : decode cX0_take 16 = .ok (.aload_n 0, 1) := by decide +kernel
theorem dX0_take_17 : decode cX0_take 17 = .ok (.getfield 20, 3) := by decide +kernel
theorem dX0_take_20 : decode cX0_take 20 = .ok (.goto 7, 3) := by decide +kernel
theorem dX0_take_23 : decode cX0_take 23 = .ok (.aload_n 0, 1) := by decide +kernel
theorem dX0_take_24 : decode cX0_take 24 = .ok (.getfield 23, 3) := by decide +kernel
theorem dX0_take_27 : decode cX0_take 27 = .ok (.lstore 9, 2) := by decide +kernel
theorem dX0_take_29 : decode cX0_take 29 = .ok (.iload 8, 2) := by decide +kernel
theorem dX0_take_31 : decode cX0_take 31 = .ok (.ifCond .eq 10, 3) := by decide +kernel
theorem dX0_take_34 : decode cX0_take 34 = .ok (.aload_n 0, 1) := by decide +kernel
theorem dX0_take_35 : decode cX0_take 35 = .ok (.getfield 23, 3) := by decide +kernel
theorem dX0_take_38 : decode cX0_take 38 = .ok (.goto 7, 3) := by decide +kernel
theorem dX0_take_41 : decode cX0_take 41 = .ok (.aload_n 0, 1) := by decide +kernel
theorem dX0_take_42 : decode cX0_take 42 = .ok (.getfield 26, 3) := by decide +kernel
theorem dX0_take_45 : decode cX0_take 45 = .ok (.lstore 11, 2) := by decide +kernel
theorem dX0_take_47 : decode cX0_take 47 = .ok (.lload_n 1, 1) := by decide +kernel
theorem dX0_take_48 : decode cX0_take 48 = .ok (.aload_n 0, 1) := by decide +kernel
theorem dX0_take_49 : decode cX0_take 49 = .ok (.iload_n 3, 1) := by decide +kernel
theorem dX0_take_50 : decode cX0_take 50 = .ok (.invokevirtual 46, 3) := by decide +kernel
theorem dX0_take_53 : decode cX0_take 53 = .ok (.lsub, 1) := by decide +kernel
theorem dX0_take_54 : decode cX0_take 54 = .ok (.lstore 13, 2) := by decide +kernel
theorem dX0_take_56 : decode cX0_take 56 = .ok (.iload 8, 2) := by decide +kernel
theorem dX0_take_58 : decode cX0_take 58 = .ok (.ifCond .eq 10, 3) := by decide +kernel
theorem dX0_take_61 : decode cX0_take 61 = .ok (.aload_n 0, 1) := by decide +kernel
theorem dX0_take_62 : decode cX0_take 62 = .ok (.getfield 20, 3) := by decide +kernel
theorem dX0_take_65 : decode cX0_take 65 = .ok (.goto 7, 3) := by decide +kernel
theorem dX0_take_68 : decode cX0_take 68 = .ok (.aload_n 0, 1) := by decide +kernel
theorem dX0_take_69 : decode cX0_take 69 = .ok (.getfield 26, 3) := by decide +kernel
theorem dX0_take_72 : decode cX0_take 72 = .ok (.lload 4, 2) := by decide +kernel
theorem dX0_take_74 : decode cX0_take 74 = .ok (.ladd, 1) := by decide +kernel
theorem dX0_take_75 : decode cX0_take 75 = .ok (.lstore 15, 2) := by decide +kernel
theorem dX0_take_77 : decode cX0_take 77 = .ok (.lload 6, 2) := by decide +kernel
theorem dX0_take_79 : decode cX0_take 79 = .ok (.lconst 0, 1) := by decide +kernel
theorem dX0_take_80 : decode cX0_take 80 = .ok (.lcmp, 1) := by decide +kernel
theorem dX0_take_81 : decode cX0_take 81 = .ok (.ifCond .eq 29, 3) := by decide +kernel
theorem dX0_take_84 : decode cX0_take 84 = .ok (.lload 13, 2) := by decide +kernel
theorem dX0_take_86 : decode cX0_take 86 = .ok (.lload 13, 2) := by decide +kernel
theorem dX0_take_88 : decode cX0_take 88 = .ok (.lmul, 1) := by decide +kernel
theorem dX0_take_89 : decode cX0_take 89 = .ok (.lload 6, 2) := by decide +kernel
theorem dX0_take_91 : decode cX0_take 91 = .ok (.lload 15, 2) := by decide +kernel
theorem dX0_take_93 : decode cX0_take 93 = .ok (.lmul, 1) := by decide +kernel
theorem dX0_take_94 : decode cX0_take 94 = .ok (.ldc2_w 18, 3) := by decide +kernel
theorem dX0_take_97 : decode cX0_take 97 = .ok (.lmul, 1) := by decide +kernel
theorem dX0_take_98 : decode cX0_take 98 = .ok (.lcmp, 1) := by decide +kernel
theorem dX0_take_99 : decode cX0_take 99 = .ok (.ifCond .le 11, 3) := by decide +kernel
theorem dX0_take_102 : decode cX0_take 102 = .ok (.aload_n 0, 1) := by decide +kernel
theorem dX0_take_103 : decode cX0_take 103 = .ok (.lload 13, 2) := by decide +kernel
theorem dX0_take_105 : decode cX0_take 105 = .ok (.putfield 31, 3) := by decide +kernel
theorem dX0_take_108 : decode cX0_take 108 = .ok (.iconst 0, 1) := by decide +kernel
theorem dX0_take_109 : decode cX0_take 109 = .ok (.ireturn, 1) := by decide +kernel
theorem dX0_take_110 : decode cX0_take 110 = .ok (.lload 9, 2) := by decide +kernel
theorem dX0_take_112 : decode cX0_take 112 = .ok (.lload 15, 2) := by decide +kernel
theorem dX0_take_114 : decode cX0_take 114 = .ok (.invokestatic 50, 3) := by decide +kernel
theorem dX0_take_117 : decode cX0_take 117 = .ok (.lstore 17, 2) := by decide +kernel
theorem dX0_take_119 : decode cX0_take 119 = .ok (.lload 11, 2) := by decide +kernel
theorem dX0_take_121 : decode cX0_take 121 = .ok (.lload 15, 2) := by decide +kernel
theorem dX0_take_123 : decode cX0_take 123 = .ok (.invokestatic 50, 3) := by decide +kernel
theorem dX0_take_126 : decode cX0_take 126 = .ok (.lstore 19, 2) := by decide +kernel
theorem dX0_take_128 : decode cX0_take 128 = .ok (.lload 17, 2) := by decide +kernel
theorem dX0_take_130 : decode cX0_take 130 = .ok (.invokestatic 54, 3) := by decide +kernel
theorem dX0_take_133 : decode cX0_take 133 = .ok (.ifCond .eq 11, 3) := by decide +kernel
theorem dX0_take_136 : decode cX0_take 136 = .ok (.lload 19, 2) := by decide +kernel
theorem dX0_take_138 : decode cX0_take 138 = .ok (.invokestatic 54, 3) := by decide +kernel
theorem dX0_take_141 : decode cX0_take 141 = .ok (.ifCond .ne 6, 3) := by decide +kernel
theorem dX0_take_144 : decode cX0_take 144 = .ok (.ldc 58, 2) := by decide +kernel
theorem dX0_take_146 : decode cX0_take 146 = .ok (.ireturn, 1) := by decide +kernel
theorem dX0_take_147 : decode cX0_take 147 = .ok (.aload_n 0, 1) := by decide +kernel
theorem dX0_take_148 : decode cX0_take 148 = .ok (.aload_n 0, 1) := by decide +kernel
theorem dX0_take_149 : decode cX0_take 149 = .ok (.getfield 9, 3) := by decide +kernel
theorem dX0_take_152 : decode cX0_take 152 = .ok (.lload 17, 2) := by decide +kernel
theorem dX0_take_154 : decode cX0_take 154 = .ok (.lload 13, 2) := by decide +kernel
theorem dX0_take_156 : decode cX0_take 156 = .ok (.invokestatic 59, 3) := by decide +kernel
theorem dX0_take_159 : decode cX0_take 159 = .ok (.ladd, 1) := by decide +kernel
theorem dX0_take_160 : decode cX0_take 160 = .ok (.aload_n 0, 1) := by decide +kernel
theorem dX0_take_161 : decode cX0_take 161 = .ok (.getfield 15, 3) := by decide +kernel
theorem dX0_take_164 : decode cX0_take 164 = .ok (.lload 19, 2) := by decide +kernel
theorem dX0_take_166 : decode cX0_take 166 = .ok (.lload 13, 2) := by decide +kernel
theorem dX0_take_168 : decode cX0_take 168 = .ok (.invokestatic 59, 3) := by decide +kernel
theorem dX0_take_171 : decode cX0_take 171 = .ok (.ladd, 1) := by decide +kernel
theorem dX0_take_172 : decode cX0_take 172 = .ok (.aload_n 0, 1) := by decide +kernel
theorem dX0_take_173 : decode cX0_take 173 = .ok (.getfield 20, 3) := by decide +kernel
theorem dX0_take_176 : decode cX0_take 176 = .ok (.lload 17, 2) := by decide +kernel
theorem dX0_take_178 : decode cX0_take 178 = .ok (.lload 9, 2) := by decide +kernel
theorem dX0_take_180 : decode cX0_take 180 = .ok (.invokestatic 59, 3) := by decide +kernel
theorem dX0_take_183 : decode cX0_take 183 = .ok (.lsub, 1) := by decide +kernel
theorem dX0_take_184 : decode cX0_take 184 = .ok (.aload_n 0, 1) := by decide +kernel
theorem dX0_take_185 : decode cX0_take 185 = .ok (.getfield 23, 3) := by decide +kernel
theorem dX0_take_188 : decode cX0_take 188 = .ok (.lload 17, 2) := by decide +kernel
theorem dX0_take_190 : decode cX0_take 190 = .ok (.lload 11, 2) := by decide +kernel
theorem dX0_take_192 : decode cX0_take 192 = .ok (.invokestatic 59, 3) := by decide +kernel
theorem dX0_take_195 : decode cX0_take 195 = .ok (.lsub, 1) := by decide +kernel
theorem dX0_take_196 : decode cX0_take 196 = .ok (.aload_n 0, 1) := by decide +kernel
theorem dX0_take_197 : decode cX0_take 197 = .ok (.getfield 26, 3) := by decide +kernel
theorem dX0_take_200 : decode cX0_take 200 = .ok (.lload 19, 2) := by decide +kernel
theorem dX0_take_202 : decode cX0_take 202 = .ok (.lload 11, 2) := by decide +kernel
theorem dX0_take_204 : decode cX0_take 204 = .ok (.invokestatic 59, 3) := by decide +kernel
theorem dX0_take_207 : decode cX0_take 207 = .ok (.lsub, 1) := by decide +kernel
theorem dX0_take_208 : decode cX0_take 208 = .ok (.invokevirtual 42, 3) := by decide +kernel
theorem dX0_take_211 : decode cX0_take 211 = .ok (.istore 21, 2) := by decide +kernel
theorem dX0_take_213 : decode cX0_take 213 = .ok (.iload 21, 2) := by decide +kernel
theorem dX0_take_215 : decode cX0_take 215 = .ok (.ifCond .ne 6, 3) := by decide +kernel
theorem dX0_take_218 : decode cX0_take 218 = .ok (.ldc 58, 2) := by decide +kernel
theorem dX0_take_220 : decode cX0_take 220 = .ok (.ireturn, 1) := by decide +kernel
theorem dX0_take_221 : decode cX0_take 221 = .ok (.aload_n 0, 1) := by decide +kernel
theorem dX0_take_222 : decode cX0_take 222 = .ok (.lload 13, 2) := by decide +kernel
theorem dX0_take_224 : decode cX0_take 224 = .ok (.putfield 31, 3) := by decide +kernel
theorem dX0_take_227 : decode cX0_take 227 = .ok (.aload_n 0, 1) := by decide +kernel
theorem dX0_take_228 : decode cX0_take 228 = .ok (.lload 17, 2) := by decide +kernel
theorem dX0_take_230 : decode cX0_take 230 = .ok (.putfield 34, 3) := by decide +kernel
theorem dX0_take_233 : decode cX0_take 233 = .ok (.aload_n 0, 1) := by decide +kernel
theorem dX0_take_234 : decode cX0_take 234 = .ok (.lload 19, 2) := by decide +kernel
theorem dX0_take_236 : decode cX0_take 236 = .ok (.putfield 37, 3) := by decide +kernel
theorem dX0_take_239 : decode cX0_take 239 = .ok (.iconst 1, 1) := by decide +kernel
theorem dX0_take_240 : decode cX0_take 240 = .ok (.ireturn, 1) := by decide +kernel
set_option maxRecDepth 20000 in
theorem ggX0_move_X3_isInLimit : GoodIn wsX0_move wsX3_isInLimit := goodIn_r _ [12, 13, 14] (by decide +kernel) (by decide +kernel)
set_option maxRecDepth 20000 in
theorem gX0_move_X3_isInLimit_n54 : GoodIn wsX0_move (wsX3_isInLimit) := ggX0_move_X3_isInLimit
theorem dX0_move_0 : decode cX0_move 0 = .ok (.lload 5, 2) := by decide +kernel
theorem dX0_move_2 : decode cX0_move 2 = .ok (.lconst 0, 1) := by decide +kernel
theorem dX0_move_3 : decode cX0_move 3 = .ok (.invokestatic 62, 3) := by decide +kernel
theorem dX0_move_6 : decode cX0_move 6 = .ok (.lstore 11, 2) := by decide +kernel
theorem dX0_move_8 : decode cX0_move 8 = .ok (.lload 9, 2) := by decide +kernel
theorem dX0_move_10 : decode cX0_move 10 = .ok (.lconst 0, 1) := by decide +kernel
theorem dX0_move_11 : decode cX0_move 11 = .ok (.invokestatic 62, 3) := by decide +kernel
theorem dX0_move_14 : decode cX0_move 14 = .ok (.lstore 13, 2) := by decide +kernel
theorem dX0_move_16 : decode cX0_move 16 = .ok (.lload_n 1, 1) := by decide +kernel
theorem dX0_move_17 : decode cX0_move 17 = .ok (.invokestatic 54, 3) := by decide +kernel
theorem dX0_move_20 : decode cX0_move 20 = .ok (.ifCond .eq 34, 3) := by decide +kernel
theorem dX0_move_23 : decode cX0_move 23 = .ok (.lload_n 3, 1) := by decide +kernel
theorem dX0_move_24 : decode cX0_move 24 = .ok (.invokestatic 54, 3) := by decide +kernel
theorem dX0_move_27 : decode cX0_move 27 = .ok (.ifCond .eq 27, 3) := by decide +kernel
theorem dX0_move_30 : decode cX0_move 30 = .ok (.lload 11, 2) := by decide +kernel
theorem dX0_move_32 : decode cX0_move 32 = .ok (.invokestatic 54, 3) := by decide +kernel
theorem dX0_move_35 : decode cX0_move 35 = .ok (.ifCond .eq 19, 3) := by decide +kernel
theorem dX0_move_38 : decode cX0_move 38 = .ok (.lload 7, 2) := by decide +kernel
theorem dX0_move_40 : decode cX0_move 40 = .ok (.invokestatic 54, 3) := by decide +kernel
theorem dX0_move_43 : decode cX0_move 43 = .ok (.ifCond .eq 11, 3) := by decide +kernel
theorem dX0_move_46 : decode cX0_move 46 = .ok (.lload 13, 2) := by decide +kernel
theorem dX0_move_48 : decode cX0_move 48 = .ok (.invokestatic 54, 3) := by decide +kernel
theorem dX0_move_51 : decode cX0_move 51 = .ok (.ifCond .ne 5, 3) := by decide +kernel
theorem dX0_move_54 : decode cX0_move 54 = .ok (.iconst 0, 1) := by decide +kernel
theorem dX0_move_55 : decode cX0_move 55 = .ok (.ireturn, 1) := by decide +kernel
theorem dX0_move_56 : decode cX0_move 56 = .ok (.aload_n 0, 1) := by decide +kernel
theorem dX0_move_57 : decode cX0_move 57 = .ok (.lload_n 1, 1) := by decide +kernel
theorem dX0_move_58 : decode cX0_move 58 = .ok (.putfield 9, 3) := by decide +kernel
theorem dX0_move_61 : decode cX0_move 61 = .ok (.aload_n 0, 1) := by decide +kernel
theorem dX0_move_62 : decode cX0_move 62 = .ok (.lload_n 3, 1) := by decide +kernel
theorem dX0_move_63 : decode cX0_move 63 = .ok (.putfield 15, 3) := by decide +kernel
theorem dX0_move_66 : decode cX0_move 66 = .ok (.aload_n 0, 1) := by decide +kernel
theorem dX0_move_67 : decode cX0_move 67 = .ok (.lload 11, 2) := by decide +kernel
theorem dX0_move_69 : decode cX0_move 69 = .ok (.putfield 20, 3) := by decide +kernel
theorem dX0_move_72 : decode cX0_move 72 = .ok (.aload_n 0, 1) := by decide +kernel
theorem dX0_move_73 : decode cX0_move 73 = .ok (.lload 7, 2) := by decide +kernel
theorem dX0_move_75 : decode cX0_move 75 = .ok (.putfield 23, 3) := by decide +kernel
theorem dX0_move_78 : decode cX0_move 78 = .ok (.aload_n 0, 1) := by decide +kernel
theorem dX0_move_79 : decode cX0_move 79 = .ok (.lload 13, 2) := by decide +kernel
theorem dX0_move_81 : decode cX0_move 81 = .ok (.putfield 26, 3) := by decide +kernel
theorem dX0_move_84 : decode cX0_move 84 = .ok (.iconst 1, 1) := by decide +kernel
theorem dX0_move_85 : decode cX0_move 85 = .ok (.ireturn, 1) := by decide +kernel
set_option maxRecDepth 20000 in
theorem ggX0_mixStateInto_X3_mix : GoodIn wsX0_mixStateInto wsX3_mix := goodIn_r _ [8, 9] (by decide +kernel) (by decide +kernel)
set_option maxRecDepth 20000 in
theorem gX0_mixStateInto_X3_mix_n67 : GoodIn wsX0_mixStateInto (wsX3_mix) := ggX0_mixStateInto_X3_mix
theorem dX0_mixStateInto_0 : decode cX0_mixStateInto 0 = .ok (.lload_n 1, 1) := by decide +kernel
theorem dX0_mixStateInto_1 : decode cX0_mixStateInto 1 = .ok (.aload_n 0, 1) := by decide +kernel
theorem dX0_mixStateInto_2 : decode cX0_mixStateInto 2 = .ok (.getfield 9, 3) := by decide +kernel
theorem dX0_mixStateInto_5 : decode cX0_mixStateInto 5 = .ok (.invokestatic 67, 3) := by decide +kernel
theorem dX0_mixStateInto_8 : decode cX0_mixStateInto 8 = .ok (.lstore_n 1, 1) := by decide +kernel
theorem dX0_mixStateInto_9 : decode cX0_mixStateInto 9 = .ok (.lload_n 1, 1) := by decide +kernel
theorem dX0_mixStateInto_10 : decode cX0_mixStateInto 10 = .ok (.aload_n 0, 1) := by decide +kernel
theorem dX0_mixStateInto_11 : decode cX0_mixStateInto 11 = .ok (.getfield 15, 3) := by decide +kernel
theorem dX0_mixStateInto_14 : decode cX0_mixStateInto 14 = .ok (.invokestatic 67, 3) := by decide +kernel
theorem dX0_mixStateInto_17 : decode cX0_mixStateInto 17 = .ok (.lstore_n 1, 1) := by decide +kernel
theorem dX0_mixStateInto_18 : decode cX0_mixStateInto 18 = .ok (.lload_n 1, 1) := by decide +kernel
theorem dX0_mixStateInto_19 : decode cX0_mixStateInto 19 = .ok (.aload_n 0, 1) := by decide +kernel
theorem dX0_mixStateInto_20 : decode cX0_mixStateInto 20 = .ok (.getfield 20, 3) := by decide +kernel
theorem dX0_mixStateInto_23 : decode cX0_mixStateInto 23 = .ok (.invokestatic 67, 3) := by decide +kernel
theorem dX0_mixStateInto_26 : decode cX0_mixStateInto 26 = .ok (.lstore_n 1, 1) := by decide +kernel
theorem dX0_mixStateInto_27 : decode cX0_mixStateInto 27 = .ok (.lload_n 1, 1) := by decide +kernel
theorem dX0_mixStateInto_28 : decode cX0_mixStateInto 28 = .ok (.aload_n 0, 1) := by decide +kernel
theorem dX0_mixStateInto_29 : decode cX0_mixStateInto 29 = .ok (.getfield 23, 3) := by decide +kernel
theorem dX0_mixStateInto_32 : decode cX0_mixStateInto 32 = .ok (.invokestatic 67, 3) := by decide +kernel
theorem dX0_mixStateInto_35 : decode cX0_mixStateInto 35 = .ok (.lstore_n 1, 1) := by decide +kernel
theorem dX0_mixStateInto_36 : decode cX0_mixStateInto 36 = .ok (.lload_n 1, 1) := by decide +kernel
theorem dX0_mixStateInto_37 : decode cX0_mixStateInto 37 = .ok (.aload_n 0, 1) := by decide +kernel
theorem dX0_mixStateInto_38 : decode cX0_mixStateInto 38 = .ok (.getfield 26, 3) := by decide +kernel
theorem dX0_mixStateInto_41 : decode cX0_mixStateInto 41 = .ok (.invokestatic 67, 3) := by decide +kernel
theorem dX0_mixStateInto_44 : decode cX0_mixStateInto 44 = .ok (.lreturn, 1) := by decide +kernel
set_option maxRecDepth 20000 in
theorem ggX0_mixLatestReadingInto_X3_mix : GoodIn wsX0_mixLatestReadingInto wsX3_mix := goodIn_r _ [6, 7] (by decide +kernel) (by decide +kernel)
set_option maxRecDepth 20000 in
theorem gX0_mixLatestReadingInto_X3_mix_n67 : GoodIn wsX0_mixLatestReadingInto (wsX3_mix) := ggX0_mixLatestReadingInto_X3_mix
theorem dX0_mixLatestReadingInto_0 : decode cX0_mixLatestReadingInto 0 = .ok (.lload_n 1, 1) := by decide +kernel
theorem dX0_mixLatestReadingInto_1 : decode cX0_mixLatestReadingInto 1 = .ok (.aload_n 0, 1) := by decide +kernel
theorem dX0_mixLatestReadingInto_2 : decode cX0_mixLatestReadingInto 2 = .ok (.getfield 31, 3) := by decide +kernel
theorem dX0_mixLatestReadingInto_5 : decode cX0_mixLatestReadingInto 5 = .ok (.invokestatic 67, 3) := by decide +kernel
theorem dX0_mixLatestReadingInto_8 : decode cX0_mixLatestReadingInto 8 = .ok (.lstore_n 1, 1) := by decide +kernel
theorem dX0_mixLatestReadingInto_9 : decode cX0_mixLatestReadingInto 9 = .ok (.lload_n 1, 1) := by decide +kernel
theorem dX0_mixLatestReadingInto_10 : decode cX0_mixLatestReadingInto 10 = .ok (.aload_n 0, 1) := by decide +kernel
theorem dX0_mixLatestReadingInto_11 : decode cX0_mixLatestReadingInto 11 = .ok (.getfield 34, 3) := by decide +kernel
theorem dX0_mixLatestReadingInto_14 : decode cX0_mixLatestReadingInto 14 = .ok (.invokestatic 67, 3) := by decide +kernel
theorem dX0_mixLatestReadingInto_17 : decode cX0_mixLatestReadingInto 17 = .ok (.lstore_n 1, 1) := by decide +kernel
theorem dX0_mixLatestReadingInto_18 : decode cX0_mixLatestReadingInto 18 = .ok (.lload_n 1, 1) := by decide +kernel
theorem dX0_mixLatestReadingInto_19 : decode cX0_mixLatestReadingInto 19 = .ok (.aload_n 0, 1) := by decide +kernel
theorem dX0_mixLatestReadingInto_20 : decode cX0_mixLatestReadingInto 20 = .ok (.getfield 37, 3) := by decide +kernel
theorem dX0_mixLatestReadingInto_23 : decode cX0_mixLatestReadingInto 23 = .ok (.invokestatic 67, 3) := by decide +kernel
