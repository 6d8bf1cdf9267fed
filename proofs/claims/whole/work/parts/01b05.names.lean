theorem dX3_runPredictions_5 : decode cX3_runPredictions 5 = .ok (.getfield 10, 3) := by decide +kernel
theorem dX3_runPredictions_8 : decode cX3_runPredictions 8 = .ok (.getfield 60, 3) := by decide +kernel
theorem dX3_runPredictions_11 : decode cX3_runPredictions 11 = .ok (.invokevirtual 98, 3) := by decide +kernel
theorem dX3_runPredictions_14 : decode cX3_runPredictions 14 = .ok (.iconst 0, 1) := by decide +kernel
theorem dX3_runPredictions_15 : decode cX3_runPredictions 15 = .ok (.istore_n 2, 1) := by decide +kernel
theorem dX3_runPredictions_16 : decode cX3_runPredictions 16 = .ok (.iload_n 2, 1) := by decide +kernel
theorem dX3_runPredictions_17 : decode cX3_runPredictions 17 = .ok (.iload_n 1, 1) := by decide +kernel
theorem dX3_runPredictions_18 : decode cX3_runPredictions 18 = .ok (.if_icmp .ge 38, 3) := by decide +kernel
theorem dX3_runPredictions_21 : decode cX3_runPredictions 21 = .ok (.aload_n 0, 1) := by decide +kernel
theorem dX3_runPredictions_22 : decode cX3_runPredictions 22 = .ok (.getfield 31, 3) := by decide +kernel
theorem dX3_runPredictions_25 : decode cX3_runPredictions 25 = .ok (.lconst 0, 1) := by decide +kernel
theorem dX3_runPredictions_26 : decode cX3_runPredictions 26 = .ok (.aload_n 0, 1) := by decide +kernel
theorem dX3_runPredictions_27 : decode cX3_runPredictions 27 = .ok (.getfield 10, 3) := by decide +kernel
theorem dX3_runPredictions_30 : decode cX3_runPredictions 30 = .ok (.getfield 79, 3) := by decide +kernel
theorem dX3_runPredictions_33 : decode cX3_runPredictions 33 = .ok (.i2l, 1) := by decide +kernel
theorem dX3_runPredictions_34 : decode cX3_runPredictions 34 = .ok (.aload_n 0, 1) := by decide +kernel
theorem dX3_runPredictions_35 : decode cX3_runPredictions 35 = .ok (.getfield 10, 3) := by decide +kernel
theorem dX3_runPredictions_38 : decode cX3_runPredictions 38 = .ok (.getfield 76, 3) := by decide +kernel
theorem dX3_runPredictions_41 : decode cX3_runPredictions 41 = .ok (.i2l, 1) := by decide +kernel
theorem dX3_runPredictions_42 : decode cX3_runPredictions 42 = .ok (.invokevirtual 102, 3) := by decide +kernel
theorem dX3_runPredictions_45 : decode cX3_runPredictions 45 = .ok (.ifCond .ne 5, 3) := by decide +kernel
theorem dX3_runPredictions_48 : decode cX3_runPredictions 48 = .ok (.iconst 0, 1) := by decide +kernel
theorem dX3_runPredictions_49 : decode cX3_runPredictions 49 = .ok (.ireturn, 1) := by decide +kernel
theorem dX3_runPredictions_50 : decode cX3_runPredictions 50 = .ok (.iinc 2 1, 3) := by decide +kernel
theorem dX3_runPredictions_53 : decode cX3_runPredictions 53 = .ok (.goto (-37), 3) := by decide +kernel
theorem dX3_runPredictions_56 : decode cX3_runPredictions 56 = .ok (.iconst 1, 1) := by decide +kernel
theorem dX3_runPredictions_57 : decode cX3_runPredictions 57 = .ok (.ireturn, 1) := by decide +kernel
set_option maxRecDepth 20000 in
theorem ggX3_runCyclesUntilSteady_X0_copyFrom : GoodIn wsX3_runCyclesUntilSteady wsX0_copyFrom := goodIn_r _ [8, 9, 10, 11, 12, 13, 14, 15, 16, 69, 70, 71, 72, 73, 74, 75, 76] (by decide +kernel) (by decide +kernel)
set_option maxRecDepth 20000 in
theorem gX3_runCyclesUntilSteady_X0_copyFrom_n98 : GoodIn wsX3_runCyclesUntilSteady (wsX0_copyFrom) := ggX3_runCyclesUntilSteady_X0_copyFrom
set_option maxRecDepth 20000 in
theorem ggX3_runCyclesUntilSteady_X0_advance : GoodIn wsX3_runCyclesUntilSteady wsX0_advance := goodIn_r _ [19, 9, 10, 11, 20, 12, 13, 21, 22, 23, 6, 24, 25, 26, 27, 28, 29, 30, 31, 32, 33, 69, 70, 71, 72, 73, 74, 75, 76] (by decide +kernel) (by decide +kernel)
set_option maxRecDepth 20000 in
theorem gX3_runCyclesUntilSteady_X0_advance_n102 : GoodIn wsX3_runCyclesUntilSteady (wsX0_advance) := ggX3_runCyclesUntilSteady_X0_advance
set_option maxRecDepth 20000 in
theorem ggX3_runCyclesUntilSteady_X0_mean : GoodIn wsX3_runCyclesUntilSteady wsX0_mean := goodIn_r _ [36, 9, 10, 69, 70, 71, 72, 73, 74, 75, 76] (by decide +kernel) (by decide +kernel)
set_option maxRecDepth 20000 in
theorem gX3_runCyclesUntilSteady_X0_mean_n194 : GoodIn wsX3_runCyclesUntilSteady (wsX0_mean) := ggX3_runCyclesUntilSteady_X0_mean
set_option maxRecDepth 20000 in
theorem ggX3_runCyclesUntilSteady_X0_take : GoodIn wsX3_runCyclesUntilSteady wsX0_take := goodIn_r _ [39, 11, 12, 13, 40, 14, 41, 9, 10, 15, 16, 42, 34, 35, 6, 36, 43, 30, 44, 45, 46, 47, 48, 49, 50, 29, 31, 32, 33, 51, 52, 53, 21, 22, 23, 24, 25, 26, 27, 28, 69, 70, 71, 72, 73, 74, 75, 76] (by decide +kernel) (by decide +kernel)
set_option maxRecDepth 20000 in
theorem gX3_runCyclesUntilSteady_X0_take_n115 : GoodIn wsX3_runCyclesUntilSteady (wsX0_take) := ggX3_runCyclesUntilSteady_X0_take
theorem dX3_runCyclesUntilSteady_0 : decode cX3_runCyclesUntilSteady 0 = .ok (.aload_n 0, 1) := by decide +kernel
theorem dX3_runCyclesUntilSteady_1 : decode cX3_runCyclesUntilSteady 1 = .ok (.getfield 31, 3) := by decide +kernel
theorem dX3_runCyclesUntilSteady_4 : decode cX3_runCyclesUntilSteady 4 = .ok (.aload_n 0, 1) := by decide +kernel
theorem dX3_runCyclesUntilSteady_5 : decode cX3_runCyclesUntilSteady 5 = .ok (.getfield 10, 3) := by decide +kernel
theorem dX3_runCyclesUntilSteady_8 : decode cX3_runCyclesUntilSteady 8 = .ok (.getfield 60, 3) := by decide +kernel
theorem dX3_runCyclesUntilSteady_11 : decode cX3_runCyclesUntilSteady 11 = .ok (.invokevirtual 98, 3) := by decide +kernel
theorem dX3_runCyclesUntilSteady_14 : decode cX3_runCyclesUntilSteady 14 = .ok (.iconst 1, 1) := by decide +kernel
theorem dX3_runCyclesUntilSteady_15 : decode cX3_runCyclesUntilSteady 15 = .ok (.istore_n 3, 1) := by decide +kernel
theorem dX3_runCyclesUntilSteady_16 : decode cX3_runCyclesUntilSteady 16 = .ok (.iload_n 3, 1) := by decide +kernel
theorem dX3_runCyclesUntilSteady_17 : decode cX3_runCyclesUntilSteady 17 = .ok (.sipush 300, 3) := by decide +kernel
theorem dX3_runCyclesUntilSteady_20 : decode cX3_runCyclesUntilSteady 20 = .ok (.if_icmp .gt 131, 3) := by decide +kernel
theorem dX3_runCyclesUntilSteady_23 : decode cX3_runCyclesUntilSteady 23 = .ok (.aload_n 0, 1) := by decide +kernel
theorem dX3_runCyclesUntilSteady_24 : decode cX3_runCyclesUntilSteady 24 = .ok (.getfield 31, 3) := by decide +kernel
theorem dX3_runCyclesUntilSteady_27 : decode cX3_runCyclesUntilSteady 27 = .ok (.getfield 122, 3) := by decide +kernel
theorem dX3_runCyclesUntilSteady_30 : decode cX3_runCyclesUntilSteady 30 = .ok (.lstore 4, 2) := by decide +kernel
theorem dX3_runCyclesUntilSteady_32 : decode cX3_runCyclesUntilSteady 32 = .ok (.aload_n 0, 1) := by decide +kernel
theorem dX3_runCyclesUntilSteady_33 : decode cX3_runCyclesUntilSteady 33 = .ok (.getfield 31, 3) := by decide +kernel
theorem dX3_runCyclesUntilSteady_36 : decode cX3_runCyclesUntilSteady 36 = .ok (.getfield 125, 3) := by decide +kernel
theorem dX3_runCyclesUntilSteady_39 : decode cX3_runCyclesUntilSteady 39 = .ok (.lstore 6, 2) := by decide +kernel
theorem dX3_runCyclesUntilSteady_41 : decode cX3_runCyclesUntilSteady 41 = .ok (.aload_n 0, 1) := by decide +kernel
theorem dX3_runCyclesUntilSteady_42 : decode cX3_runCyclesUntilSteady 42 = .ok (.getfield 31, 3) := by decide +kernel
theorem dX3_runCyclesUntilSteady_45 : decode cX3_runCyclesUntilSteady 45 = .ok (.getfield 128, 3) := by decide +kernel
theorem dX3_runCyclesUntilSteady_48 : decode cX3_runCyclesUntilSteady 48 = .ok (.lstore 8, 2) := by decide +kernel
theorem dX3_runCyclesUntilSteady_50 : decode cX3_runCyclesUntilSteady 50 = .ok (.aload_n 0, 1) := by decide +kernel
theorem dX3_runCyclesUntilSteady_51 : decode cX3_runCyclesUntilSteady 51 = .ok (.getfield 31, 3) := by decide +kernel
theorem dX3_runCyclesUntilSteady_54 : decode cX3_runCyclesUntilSteady 54 = .ok (.lconst 0, 1) := by decide +kernel
theorem dX3_runCyclesUntilSteady_55 : decode cX3_runCyclesUntilSteady 55 = .ok (.aload_n 0, 1) := by decide +kernel
theorem dX3_runCyclesUntilSteady_56 : decode cX3_runCyclesUntilSteady 56 = .ok (.getfield 10, 3) := by decide +kernel
theorem dX3_runCyclesUntilSteady_59 : decode cX3_runCyclesUntilSteady 59 = .ok (.getfield 79, 3) := by decide +kernel
theorem dX3_runCyclesUntilSteady_62 : decode cX3_runCyclesUntilSteady 62 = .ok (.i2l, 1) := by decide +kernel
theorem dX3_runCyclesUntilSteady_63 : decode cX3_runCyclesUntilSteady 63 = .ok (.aload_n 0, 1) := by decide +kernel
theorem dX3_runCyclesUntilSteady_64 : decode cX3_runCyclesUntilSteady 64 = .ok (.getfield 10, 3) := by decide +kernel
theorem dX3_runCyclesUntilSteady_67 : decode cX3_runCyclesUntilSteady 67 = .ok (.getfield 76, 3) := by decide +kernel
theorem dX3_runCyclesUntilSteady_70 : decode cX3_runCyclesUntilSteady 70 = .ok (.i2l, 1) := by decide +kernel
theorem dX3_runCyclesUntilSteady_71 : decode cX3_runCyclesUntilSteady 71 = .ok (.invokevirtual 102, 3) := by decide +kernel
theorem dX3_runCyclesUntilSteady_74 : decode cX3_runCyclesUntilSteady 74 = .ok (.ifCond .eq 27, 3) := by decide +kernel
theorem dX3_runCyclesUntilSteady_77 : decode cX3_runCyclesUntilSteady 77 = .ok (.aload_n 0, 1) := by decide +kernel
theorem dX3_runCyclesUntilSteady_78 : decode cX3_runCyclesUntilSteady 78 = .ok (.getfield 31, 3) := by decide +kernel
theorem dX3_runCyclesUntilSteady_81 : decode cX3_runCyclesUntilSteady 81 = .ok (.aload_n 0, 1) := by decide +kernel
theorem dX3_runCyclesUntilSteady_82 : decode cX3_runCyclesUntilSteady 82 = .ok (.getfield 31, 3) := by decide +kernel
theorem dX3_runCyclesUntilSteady_85 : decode cX3_runCyclesUntilSteady 85 = .ok (.iload_n 1, 1) := by decide +kernel
theorem dX3_runCyclesUntilSteady_86 : decode cX3_runCyclesUntilSteady 86 = .ok (.invokevirtual 194, 3) := by decide +kernel
theorem dX3_runCyclesUntilSteady_89 : decode cX3_runCyclesUntilSteady 89 = .ok (.iload_n 1, 1) := by decide +kernel
theorem dX3_runCyclesUntilSteady_90 : decode cX3_runCyclesUntilSteady 90 = .ok (.iload_n 2, 1) := by decide +kernel
theorem dX3_runCyclesUntilSteady_91 : decode cX3_runCyclesUntilSteady 91 = .ok (.i2l, 1) := by decide +kernel
theorem dX3_runCyclesUntilSteady_92 : decode cX3_runCyclesUntilSteady 92 = .ok (.lconst 0, 1) := by decide +kernel
theorem dX3_runCyclesUntilSteady_93 : decode cX3_runCyclesUntilSteady 93 = .ok (.invokevirtual 115, 3) := by decide +kernel
theorem dX3_runCyclesUntilSteady_96 : decode cX3_runCyclesUntilSteady 96 = .ok (.ldc 106, 2) := by decide +kernel
theorem dX3_runCyclesUntilSteady_98 : decode cX3_runCyclesUntilSteady 98 = .ok (.if_icmp .ne 6, 3) := by decide +kernel
theorem dX3_runCyclesUntilSteady_101 : decode cX3_runCyclesUntilSteady 101 = .ok (.ldc 143, 2) := by decide +kernel
theorem dX3_runCyclesUntilSteady_103 : decode cX3_runCyclesUntilSteady 103 = .ok (.ireturn, 1) := by decide +kernel
theorem dX3_runCyclesUntilSteady_104 : decode cX3_runCyclesUntilSteady 104 = .ok (.aload_n 0, 1) := by decide +kernel
theorem dX3_runCyclesUntilSteady_105 : decode cX3_runCyclesUntilSteady 105 = .ok (.getfield 31, 3) := by decide +kernel
theorem dX3_runCyclesUntilSteady_108 : decode cX3_runCyclesUntilSteady 108 = .ok (.getfield 122, 3) := by decide +kernel
theorem dX3_runCyclesUntilSteady_111 : decode cX3_runCyclesUntilSteady 111 = .ok (.lload 4, 2) := by decide +kernel
theorem dX3_runCyclesUntilSteady_113 : decode cX3_runCyclesUntilSteady 113 = .ok (.lcmp, 1) := by decide +kernel
theorem dX3_runCyclesUntilSteady_114 : decode cX3_runCyclesUntilSteady 114 = .ok (.ifCond .ne 31, 3) := by decide +kernel
theorem dX3_runCyclesUntilSteady_117 : decode cX3_runCyclesUntilSteady 117 = .ok (.aload_n 0, 1) := by decide +kernel
theorem dX3_runCyclesUntilSteady_118 : decode cX3_runCyclesUntilSteady 118 = .ok (.getfield 31, 3) := by decide +kernel
theorem dX3_runCyclesUntilSteady_121 : decode cX3_runCyclesUntilSteady 121 = .ok (.getfield 125, 3) := by decide +kernel
theorem dX3_runCyclesUntilSteady_124 : decode cX3_runCyclesUntilSteady 124 = .ok (.lload 6, 2) := by decide +kernel
theorem dX3_runCyclesUntilSteady_126 : decode cX3_runCyclesUntilSteady 126 = .ok (.lcmp, 1) := by decide +kernel
theorem dX3_runCyclesUntilSteady_127 : decode cX3_runCyclesUntilSteady 127 = .ok (.ifCond .ne 18, 3) := by decide +kernel
theorem dX3_runCyclesUntilSteady_130 : decode cX3_runCyclesUntilSteady 130 = .ok (.aload_n 0, 1) := by decide +kernel
theorem dX3_runCyclesUntilSteady_131 : decode cX3_runCyclesUntilSteady 131 = .ok (.getfield 31, 3) := by decide +kernel
theorem dX3_runCyclesUntilSteady_134 : decode cX3_runCyclesUntilSteady 134 = .ok (.getfield 128, 3) := by decide +kernel
theorem dX3_runCyclesUntilSteady_137 : decode cX3_runCyclesUntilSteady 137 = .ok (.lload 8, 2) := by decide +kernel
theorem dX3_runCyclesUntilSteady_139 : decode cX3_runCyclesUntilSteady 139 = .ok (.lcmp, 1) := by decide +kernel
theorem dX3_runCyclesUntilSteady_140 : decode cX3_runCyclesUntilSteady 140 = .ok (.ifCond .ne 5, 3) := by decide +kernel
theorem dX3_runCyclesUntilSteady_143 : decode cX3_runCyclesUntilSteady 143 = .ok (.iload_n 3, 1) := by decide +kernel
theorem dX3_runCyclesUntilSteady_144 : decode cX3_runCyclesUntilSteady 144 = .ok (.ireturn, 1) := by decide +kernel
theorem dX3_runCyclesUntilSteady_145 : decode cX3_runCyclesUntilSteady 145 = .ok (.iinc 3 1, 3) := by decide +kernel
theorem dX3_runCyclesUntilSteady_148 : decode cX3_runCyclesUntilSteady 148 = .ok (.goto (-132), 3) := by decide +kernel
theorem dX3_runCyclesUntilSteady_151 : decode cX3_runCyclesUntilSteady 151 = .ok (.ldc 143, 2) := by decide +kernel
theorem dX3_runCyclesUntilSteady_153 : decode cX3_runCyclesUntilSteady 153 = .ok (.ireturn, 1) := by decide +kernel
set_option maxRecDepth 20000 in
theorem ggX3_runReplay_X0_copyFrom : GoodIn wsX3_runReplay wsX0_copyFrom := goodIn_r _ [11, 12, 13, 14, 15, 16, 17, 18, 19, 81, 82, 83, 84, 85, 86, 87, 88] (by decide +kernel) (by decide +kernel)
set_option maxRecDepth 20000 in
theorem gX3_runReplay_X0_copyFrom_n98 : GoodIn wsX3_runReplay (wsX0_copyFrom) := ggX3_runReplay_X0_copyFrom
set_option maxRecDepth 20000 in
theorem ggX3_runReplay_X3_isSensor : GoodIn wsX3_runReplay wsX3_isSensor := goodIn_r _ [23, 24, 25, 22, 26] (by decide +kernel) (by decide +kernel)
set_option maxRecDepth 20000 in
theorem gX3_runReplay_X3_isSensor : GoodIn wsX3_runReplay (va_wsS RX3 82 yX3_isSensor wsX3_isSensor) := goodIn_app (goodIn_of _ (by decide +kernel)) ggX3_runReplay_X3_isSensor
set_option maxRecDepth 20000 in
theorem ggX3_runReplay_X0_take : GoodIn wsX3_runReplay wsX0_take := goodIn_r _ [29, 14, 15, 16, 30, 17, 31, 12, 13, 18, 19, 32, 33, 34, 9, 35, 36, 22, 37, 38, 39, 40, 41, 42, 43, 44, 45, 46, 47, 48, 49, 50, 51, 52, 53, 54, 55, 56, 6, 57, 81, 82, 83, 84, 85, 86, 87, 88] (by decide +kernel) (by decide +kernel)
set_option maxRecDepth 20000 in
theorem gX3_runReplay_X0_take_n115 : GoodIn wsX3_runReplay (wsX0_take) := ggX3_runReplay_X0_take
set_option maxRecDepth 20000 in
theorem ggX3_runReplay_X0_advance : GoodIn wsX3_runReplay wsX0_advance := goodIn_r _ [60, 12, 13, 14, 61, 15, 16, 51, 52, 53, 9, 54, 55, 56, 6, 57, 44, 22, 45, 46, 47, 81, 82, 83, 84, 85, 86, 87, 88] (by decide +kernel) (by decide +kernel)
set_option maxRecDepth 20000 in
theorem gX3_runReplay_X0_advance_n102 : GoodIn wsX3_runReplay (wsX0_advance) := ggX3_runReplay_X0_advance
set_option maxRecDepth 20000 in
theorem ggX3_runReplay_X3_isInLimit : GoodIn wsX3_runReplay wsX3_isInLimit := goodIn_r _ [45, 46, 47] (by decide +kernel) (by decide +kernel)
set_option maxRecDepth 20000 in
theorem gX3_runReplay_X3_isInLimit : GoodIn wsX3_runReplay (va_wsS RX3 207 yX3_isInLimit wsX3_isInLimit) := goodIn_app (goodIn_of _ (by decide +kernel)) ggX3_runReplay_X3_isInLimit
theorem dX3_runReplay_0 : decode cX3_runReplay 0 = .ok (.aload_n 0, 1) := by decide +kernel
theorem dX3_runReplay_1 : decode cX3_runReplay 1 = .ok (.getfield 31, 3) := by decide +kernel
theorem dX3_runReplay_4 : decode cX3_runReplay 4 = .ok (.aload_n 0, 1) := by decide +kernel
theorem dX3_runReplay_5 : decode cX3_runReplay 5 = .ok (.getfield 10, 3) := by decide +kernel
theorem dX3_runReplay_8 : decode cX3_runReplay 8 = .ok (.getfield 60, 3) := by decide +kernel
theorem dX3_runReplay_11 : decode cX3_runReplay 11 = .ok (.invokevirtual 98, 3) := by decide +kernel
theorem dX3_runReplay_14 : decode cX3_runReplay 14 = .ok (.lconst 0, 1) := by decide +kernel
theorem dX3_runReplay_15 : decode cX3_runReplay 15 = .ok (.lstore_n 2, 1) := by decide +kernel
theorem dX3_runReplay_16 : decode cX3_runReplay 16 = .ok (.iconst 0, 1) := by decide +kernel
theorem dX3_runReplay_17 : decode cX3_runReplay 17 = .ok (.istore 4, 2) := by decide +kernel
theorem dX3_runReplay_19 : decode cX3_runReplay 19 = .ok (.iload 4, 2) := by decide +kernel
theorem dX3_runReplay_21 : decode cX3_runReplay 21 = .ok (.aload_n 0, 1) := by decide +kernel
theorem dX3_runReplay_22 : decode cX3_runReplay 22 = .ok (.getfield 10, 3) := by decide +kernel
theorem dX3_runReplay_25 : decode cX3_runReplay 25 = .ok (.getfield 51, 3) := by decide +kernel
theorem dX3_runReplay_28 : decode cX3_runReplay 28 = .ok (.getfield 55, 3) := by decide +kernel
theorem dX3_runReplay_31 : decode cX3_runReplay 31 = .ok (.if_icmp .ge 140, 3) := by decide +kernel
theorem dX3_runReplay_34 : decode cX3_runReplay 34 = .ok (.iload 4, 2) := by decide +kernel
theorem dX3_runReplay_36 : decode cX3_runReplay 36 = .ok (.bipush 24, 2) := by decide +kernel
theorem dX3_runReplay_38 : decode cX3_runReplay 38 = .ok (.if_icmp .ge 133, 3) := by decide +kernel
theorem dX3_runReplay_41 : decode cX3_runReplay 41 = .ok (.aload_n 0, 1) := by decide +kernel
theorem dX3_runReplay_42 : decode cX3_runReplay 42 = .ok (.getfield 10, 3) := by decide +kernel
theorem dX3_runReplay_45 : decode cX3_runReplay 45 = .ok (.getfield 51, 3) := by decide +kernel
theorem dX3_runReplay_48 : decode cX3_runReplay 48 = .ok (.getfield 198, 3) := by decide +kernel
theorem dX3_runReplay_51 : decode cX3_runReplay 51 = .ok (.iload 4, 2) := by decide +kernel
theorem dX3_runReplay_53 : decode cX3_runReplay 53 = .ok (.iaload, 1) := by decide +kernel
theorem dX3_runReplay_54 : decode cX3_runReplay 54 = .ok (.istore 5, 2) := by decide +kernel
theorem dX3_runReplay_56 : decode cX3_runReplay 56 = .ok (.aload_n 0, 1) := by decide +kernel
theorem dX3_runReplay_57 : decode cX3_runReplay 57 = .ok (.getfield 10, 3) := by decide +kernel
theorem dX3_runReplay_60 : decode cX3_runReplay 60 = .ok (.getfield 51, 3) := by decide +kernel
theorem dX3_runReplay_63 : decode cX3_runReplay 63 = .ok (.getfield 201, 3) := by decide +kernel
theorem dX3_runReplay_66 : decode cX3_runReplay 66 = .ok (.iload 4, 2) := by decide +kernel
theorem dX3_runReplay_68 : decode cX3_runReplay 68 = .ok (.iaload, 1) := by decide +kernel
theorem dX3_runReplay_69 : decode cX3_runReplay 69 = .ok (.istore 6, 2) := by decide +kernel
theorem dX3_runReplay_71 : decode cX3_runReplay 71 = .ok (.iload 5, 2) := by decide +kernel
theorem dX3_runReplay_73 : decode cX3_runReplay 73 = .ok (.invokestatic 82, 3) := by decide +kernel
theorem dX3_runReplay_76 : decode cX3_runReplay 76 = .ok (.ifCond .eq 63, 3) := by decide +kernel
theorem dX3_runReplay_79 : decode cX3_runReplay 79 = .ok (.aload_n 0, 1) := by decide +kernel
theorem dX3_runReplay_80 : decode cX3_runReplay 80 = .ok (.getfield 31, 3) := by decide +kernel
theorem dX3_runReplay_83 : decode cX3_runReplay 83 = .ok (.iload 6, 2) := by decide +kernel
theorem dX3_runReplay_85 : decode cX3_runReplay 85 = .ok (.i2l, 1) := by decide +kernel
theorem dX3_runReplay_86 : decode cX3_runReplay 86 = .ok (.aload_n 0, 1) := by decide +kernel
theorem dX3_runReplay_87 : decode cX3_runReplay 87 = .ok (.getfield 10, 3) := by decide +kernel
theorem dX3_runReplay_90 : decode cX3_runReplay 90 = .ok (.getfield 92, 3) := by decide +kernel
theorem dX3_runReplay_93 : decode cX3_runReplay 93 = .ok (.iload 5, 2) := by decide +kernel
theorem dX3_runReplay_95 : decode cX3_runReplay 95 = .ok (.iaload, 1) := by decide +kernel
theorem dX3_runReplay_96 : decode cX3_runReplay 96 = .ok (.aload_n 0, 1) := by decide +kernel
theorem dX3_runReplay_97 : decode cX3_runReplay 97 = .ok (.getfield 10, 3) := by decide +kernel
theorem dX3_runReplay_100 : decode cX3_runReplay 100 = .ok (.getfield 89, 3) := by decide +kernel
theorem dX3_runReplay_103 : decode cX3_runReplay 103 = .ok (.iload 5, 2) := by decide +kernel
theorem dX3_runReplay_105 : decode cX3_runReplay 105 = .ok (.iaload, 1) := by decide +kernel
theorem dX3_runReplay_106 : decode cX3_runReplay 106 = .ok (.i2l, 1) := by decide +kernel
theorem dX3_runReplay_107 : decode cX3_runReplay 107 = .ok (.lconst 0, 1) := by decide +kernel
theorem dX3_runReplay_108 : decode cX3_runReplay 108 = .ok (.invokevirtual 115, 3) := by decide +kernel
theorem dX3_runReplay_111 : decode cX3_runReplay 111 = .ok (.istore 7, 2) := by decide +kernel
theorem dX3_runReplay_113 : decode cX3_runReplay 113 = .ok (.iload 7, 2) := by decide +kernel
theorem dX3_runReplay_115 : decode cX3_runReplay 115 = .ok (.ldc 106, 2) := by decide +kernel
theorem dX3_runReplay_117 : decode cX3_runReplay 117 = .ok (.if_icmp .ne 6, 3) := by decide +kernel
theorem dX3_runReplay_120 : decode cX3_runReplay 120 = .ok (.ldc 106, 2) := by decide +kernel
theorem dX3_runReplay_122 : decode cX3_runReplay 122 = .ok (.ireturn, 1) := by decide +kernel
theorem dX3_runReplay_123 : decode cX3_runReplay 123 = .ok (.lload_n 2, 1) := by decide +kernel
theorem dX3_runReplay_124 : decode cX3_runReplay 124 = .ok (.aload_n 0, 1) := by decide +kernel
theorem dX3_runReplay_125 : decode cX3_runReplay 125 = .ok (.getfield 31, 3) := by decide +kernel
theorem dX3_runReplay_128 : decode cX3_runReplay 128 = .ok (.getfield 131, 3) := by decide +kernel
theorem dX3_runReplay_131 : decode cX3_runReplay 131 = .ok (.invokestatic 204, 3) := by decide +kernel
theorem dX3_runReplay_134 : decode cX3_runReplay 134 = .ok (.ladd, 1) := by decide +kernel
theorem dX3_runReplay_135 : decode cX3_runReplay 135 = .ok (.lstore_n 2, 1) := by decide +kernel
theorem dX3_runReplay_136 : decode cX3_runReplay 136 = .ok (.goto 29, 3) := by decide +kernel
theorem dX3_runReplay_139 : decode cX3_runReplay 139 = .ok (.aload_n 0, 1) := by decide +kernel
theorem dX3_runReplay_140 : decode cX3_runReplay 140 = .ok (.getfield 31, 3) := by decide +kernel
theorem dX3_runReplay_143 : decode cX3_runReplay 143 = .ok (.iload 6, 2) := by decide +kernel
theorem dX3_runReplay_145 : decode cX3_runReplay 145 = .ok (.i2l, 1) := by decide +kernel
theorem dX3_runReplay_146 : decode cX3_runReplay 146 = .ok (.aload_n 0, 1) := by decide +kernel
theorem dX3_runReplay_147 : decode cX3_runReplay 147 = .ok (.getfield 10, 3) := by decide +kernel
theorem dX3_runReplay_150 : decode cX3_runReplay 150 = .ok (.getfield 79, 3) := by decide +kernel
theorem dX3_runReplay_153 : decode cX3_runReplay 153 = .ok (.i2l, 1) := by decide +kernel
theorem dX3_runReplay_154 : decode cX3_runReplay 154 = .ok (.iload_n 1, 1) := by decide +kernel
theorem dX3_runReplay_155 : decode cX3_runReplay 155 = .ok (.i2l, 1) := by decide +kernel
theorem dX3_runReplay_156 : decode cX3_runReplay 156 = .ok (.invokevirtual 102, 3) := by decide +kernel
theorem dX3_runReplay_159 : decode cX3_runReplay 159 = .ok (.ifCond .ne 6, 3) := by decide +kernel
theorem dX3_runReplay_162 : decode cX3_runReplay 162 = .ok (.ldc 106, 2) := by decide +kernel
theorem dX3_runReplay_164 : decode cX3_runReplay 164 = .ok (.ireturn, 1) := by decide +kernel
theorem dX3_runReplay_165 : decode cX3_runReplay 165 = .ok (.iinc 4 1, 3) := by decide +kernel
theorem dX3_runReplay_168 : decode cX3_runReplay 168 = .ok (.goto (-149), 3) := by decide +kernel
theorem dX3_runReplay_171 : decode cX3_runReplay 171 = .ok (.lload_n 2, 1) := by decide +kernel
theorem dX3_runReplay_172 : decode cX3_runReplay 172 = .ok (.invokestatic 207, 3) := by decide +kernel
theorem dX3_runReplay_175 : decode cX3_runReplay 175 = .ok (.ifCond .eq 8, 3) := by decide +kernel
theorem dX3_runReplay_178 : decode cX3_runReplay 178 = .ok (.lload_n 2, 1) := by decide +kernel
theorem dX3_runReplay_179 : decode cX3_runReplay 179 = .ok (.l2i, 1) := by decide +kernel
theorem dX3_runReplay_180 : decode cX3_runReplay 180 = .ok (.goto 5, 3) := by decide +kernel
theorem dX3_runReplay_183 : decode cX3_runReplay 183 = .ok (.ldc 106, 2) := by decide +kernel
theorem dX3_runReplay_185 : decode cX3_runReplay 185 = .ok (.ireturn, 1) := by decide +kernel
set_option maxRecDepth 20000 in
theorem ggX4_init_X4_forget : GoodIn wsX4_init wsX4_forget := goodIn_r _ [14, 5, 15, 16, 17, 18, 19, 20, 21, 22, 23, 24] (by decide +kernel) (by decide +kernel)
set_option maxRecDepth 20000 in
theorem gX4_init_X4_forget : GoodIn wsX4_init (wsV RX4 23 RX4 yX4_forget wsX4_forget) := goodIn_app (goodIn_of _ (by decide +kernel)) ggX4_init_X4_forget
theorem dX4_init_0 : decode cX4_init 0 = .ok (.aload_n 0, 1) := by decide +kernel
theorem dX4_init_1 : decode cX4_init 1 = .ok (.invokespecial 1, 3) := by decide +kernel
theorem dX4_init_4 : decode cX4_init 4 = .ok (.aload_n 0, 1) := by decide +kernel
theorem dX4_init_5 : decode cX4_init 5 = .ok (.bipush 71, 2) := by decide +kernel
theorem dX4_init_7 : decode cX4_init 7 = .ok (.newarray .int, 2) := by decide +kernel
theorem dX4_init_9 : decode cX4_init 9 = .ok (.putfield 7, 3) := by decide +kernel
theorem dX4_init_12 : decode cX4_init 12 = .ok (.aload_n 0, 1) := by decide +kernel
theorem dX4_init_13 : decode cX4_init 13 = .ok (.sipush 284, 3) := by decide +kernel
theorem dX4_init_16 : decode cX4_init 16 = .ok (.newarray .int, 2) := by decide +kernel
theorem dX4_init_18 : decode cX4_init 18 = .ok (.putfield 13, 3) := by decide +kernel
theorem dX4_init_21 : decode cX4_init 21 = .ok (.aload_n 0, 1) := by decide +kernel
theorem dX4_init_22 : decode cX4_init 22 = .ok (.iconst 3, 1) := by decide +kernel
theorem dX4_init_23 : decode cX4_init 23 = .ok (.newarray .int, 2) := by decide +kernel
theorem dX4_init_25 : decode cX4_init 25 = .ok (.putfield 16, 3) := by decide +kernel
theorem dX4_init_28 : decode cX4_init 28 = .ok (.aload_n 0, 1) := by decide +kernel
theorem dX4_init_29 : decode cX4_init 29 = .ok (.iconst 5, 1) := by decide +kernel
theorem dX4_init_30 : decode cX4_init 30 = .ok (.newarray .long, 2) := by decide +kernel
theorem dX4_init_32 : decode cX4_init 32 = .ok (.putfield 19, 3) := by decide +kernel
theorem dX4_init_35 : decode cX4_init 35 = .ok (.aload_n 0, 1) := by decide +kernel
theorem dX4_init_36 : decode cX4_init 36 = .ok (.getfield 7, 3) := by decide +kernel
theorem dX4_init_39 : decode cX4_init 39 = .ok (.iconst 2, 1) := by decide +kernel
theorem dX4_init_40 : decode cX4_init 40 = .ok (.sipush 4096, 3) := by decide +kernel
theorem dX4_init_43 : decode cX4_init 43 = .ok (.iastore, 1) := by decide +kernel
theorem dX4_init_44 : decode cX4_init 44 = .ok (.aload_n 0, 1) := by decide +kernel
theorem dX4_init_45 : decode cX4_init 45 = .ok (.getfield 7, 3) := by decide +kernel
theorem dX4_init_48 : decode cX4_init 48 = .ok (.iconst 4, 1) := by decide +kernel
theorem dX4_init_49 : decode cX4_init 49 = .ok (.sipush 4096, 3) := by decide +kernel
theorem dX4_init_52 : decode cX4_init 52 = .ok (.iastore, 1) := by decide +kernel
theorem dX4_init_53 : decode cX4_init 53 = .ok (.aload_n 0, 1) := by decide +kernel
theorem dX4_init_54 : decode cX4_init 54 = .ok (.getfield 7, 3) := by decide +kernel
theorem dX4_init_57 : decode cX4_init 57 = .ok (.bipush 6, 2) := by decide +kernel
theorem dX4_init_59 : decode cX4_init 59 = .ok (.bipush 64, 2) := by decide +kernel
theorem dX4_init_61 : decode cX4_init 61 = .ok (.iastore, 1) := by decide +kernel
theorem dX4_init_62 : decode cX4_init 62 = .ok (.aload_n 0, 1) := by decide +kernel
theorem dX4_init_63 : decode cX4_init 63 = .ok (.getfield 7, 3) := by decide +kernel
theorem dX4_init_66 : decode cX4_init 66 = .ok (.bipush 7, 2) := by decide +kernel
theorem dX4_init_68 : decode cX4_init 68 = .ok (.bipush 9, 2) := by decide +kernel
theorem dX4_init_70 : decode cX4_init 70 = .ok (.iastore, 1) := by decide +kernel
theorem dX4_init_71 : decode cX4_init 71 = .ok (.iconst 0, 1) := by decide +kernel
theorem dX4_init_72 : decode cX4_init 72 = .ok (.istore_n 1, 1) := by decide +kernel
theorem dX4_init_73 : decode cX4_init 73 = .ok (.iload_n 1, 1) := by decide +kernel
theorem dX4_init_74 : decode cX4_init 74 = .ok (.iconst 4, 1) := by decide +kernel
theorem dX4_init_75 : decode cX4_init 75 = .ok (.if_icmp .ge 21, 3) := by decide +kernel
theorem dX4_init_78 : decode cX4_init 78 = .ok (.aload_n 0, 1) := by decide +kernel
theorem dX4_init_79 : decode cX4_init 79 = .ok (.getfield 7, 3) := by decide +kernel
theorem dX4_init_82 : decode cX4_init 82 = .ok (.bipush 12, 2) := by decide +kernel
theorem dX4_init_84 : decode cX4_init 84 = .ok (.iload_n 1, 1) := by decide +kernel
theorem dX4_init_85 : decode cX4_init 85 = .ok (.iadd, 1) := by decide +kernel
theorem dX4_init_86 : decode cX4_init 86 = .ok (.sipush 4096, 3) := by decide +kernel
theorem dX4_init_89 : decode cX4_init 89 = .ok (.iastore, 1) := by decide +kernel
theorem dX4_init_90 : decode cX4_init 90 = .ok (.iinc 1 1, 3) := by decide +kernel
theorem dX4_init_93 : decode cX4_init 93 = .ok (.goto (-20), 3) := by decide +kernel
theorem dX4_init_96 : decode cX4_init 96 = .ok (.aload_n 0, 1) := by decide +kernel
theorem dX4_init_97 : decode cX4_init 97 = .ok (.invokevirtual 23, 3) := by decide +kernel
theorem dX4_init_100 : decode cX4_init 100 = .ok (.return_, 1) := by decide +kernel
theorem dX4_in_0 : decode cX4_in 0 = .ok (.iload_n 0, 1) := by decide +kernel
theorem dX4_in_1 : decode cX4_in 1 = .ok (.iload_n 1, 1) := by decide +kernel
theorem dX4_in_2 : decode cX4_in 2 = .ok (.if_icmp .lt 12, 3) := by decide +kernel
theorem dX4_in_5 : decode cX4_in 5 = .ok (.iload_n 0, 1) := by decide +kernel
theorem dX4_in_6 : decode cX4_in 6 = .ok (.iload_n 2, 1) := by decide +kernel
theorem dX4_in_7 : decode cX4_in 7 = .ok (.if_icmp .gt 7, 3) := by decide +kernel
theorem dX4_in_10 : decode cX4_in 10 = .ok (.iconst 1, 1) := by decide +kernel
theorem dX4_in_11 : decode cX4_in 11 = .ok (.goto 4, 3) := by decide +kernel
theorem dX4_in_14 : decode cX4_in 14 = .ok (.iconst 0, 1) := by decide +kernel
theorem dX4_in_15 : decode cX4_in 15 = .ok (.ireturn, 1) := by decide +kernel
theorem dX4_fail_0 : decode cX4_fail 0 = .ok (.aload_n 0, 1) := by decide +kernel
theorem dX4_fail_1 : decode cX4_fail 1 = .ok (.getfield 16, 3) := by decide +kernel
theorem dX4_fail_4 : decode cX4_fail 4 = .ok (.ldc 26, 2) := by decide +kernel
theorem dX4_fail_6 : decode cX4_fail 6 = .ok (.iload_n 1, 1) := by decide +kernel
theorem dX4_fail_7 : decode cX4_fail 7 = .ok (.isub, 1) := by decide +kernel
theorem dX4_fail_8 : decode cX4_fail 8 = .ok (.dup2, 1) := by decide +kernel
theorem dX4_fail_9 : decode cX4_fail 9 = .ok (.iaload, 1) := by decide +kernel
theorem dX4_fail_10 : decode cX4_fail 10 = .ok (.iconst 1, 1) := by decide +kernel
theorem dX4_fail_11 : decode cX4_fail 11 = .ok (.iadd, 1) := by decide +kernel
theorem dX4_fail_12 : decode cX4_fail 12 = .ok (.iastore, 1) := by decide +kernel
theorem dX4_fail_13 : decode cX4_fail 13 = .ok (.iload_n 1, 1) := by decide +kernel
theorem dX4_fail_14 : decode cX4_fail 14 = .ok (.ireturn, 1) := by decide +kernel
theorem dX4_forget_0 : decode cX4_forget 0 = .ok (.aload_n 0, 1) := by decide +kernel
theorem dX4_forget_1 : decode cX4_forget 1 = .ok (.getfield 7, 3) := by decide +kernel
theorem dX4_forget_4 : decode cX4_forget 4 = .ok (.bipush 16, 2) := by decide +kernel
theorem dX4_forget_6 : decode cX4_forget 6 = .ok (.ldc 27, 2) := by decide +kernel
theorem dX4_forget_8 : decode cX4_forget 8 = .ok (.iastore, 1) := by decide +kernel
theorem dX4_forget_9 : decode cX4_forget 9 = .ok (.aload_n 0, 1) := by decide +kernel
theorem dX4_forget_10 : decode cX4_forget 10 = .ok (.getfield 7, 3) := by decide +kernel
theorem dX4_forget_13 : decode cX4_forget 13 = .ok (.bipush 17, 2) := by decide +kernel
theorem dX4_forget_15 : decode cX4_forget 15 = .ok (.ldc 27, 2) := by decide +kernel
theorem dX4_forget_17 : decode cX4_forget 17 = .ok (.iastore, 1) := by decide +kernel
theorem dX4_forget_18 : decode cX4_forget 18 = .ok (.aload_n 0, 1) := by decide +kernel
theorem dX4_forget_19 : decode cX4_forget 19 = .ok (.getfield 7, 3) := by decide +kernel
theorem dX4_forget_22 : decode cX4_forget 22 = .ok (.bipush 18, 2) := by decide +kernel
theorem dX4_forget_24 : decode cX4_forget 24 = .ok (.ldc 27, 2) := by decide +kernel
theorem dX4_forget_26 : decode cX4_forget 26 = .ok (.iastore, 1) := by decide +kernel
theorem dX4_forget_27 : decode cX4_forget 27 = .ok (.aload_n 0, 1) := by decide +kernel
theorem dX4_forget_28 : decode cX4_forget 28 = .ok (.getfield 7, 3) := by decide +kernel
theorem dX4_forget_31 : decode cX4_forget 31 = .ok (.bipush 19, 2) := by decide +kernel
theorem dX4_forget_33 : decode cX4_forget 33 = .ok (.iconst 0, 1) := by decide +kernel
theorem dX4_forget_34 : decode cX4_forget 34 = .ok (.iastore, 1) := by decide +kernel
theorem dX4_forget_35 : decode cX4_forget 35 = .ok (.aload_n 0, 1) := by decide +kernel
theorem dX4_forget_36 : decode cX4_forget 36 = .ok (.getfield 7, 3) := by decide +kernel
theorem dX4_forget_39 : decode cX4_forget 39 = .ok (.bipush 20, 2) := by decide +kernel
theorem dX4_forget_41 : decode cX4_forget 41 = .ok (.iconst 0, 1) := by decide +kernel
theorem dX4_forget_42 : decode cX4_forget 42 = .ok (.iastore, 1) := by decide +kernel
theorem dX4_forget_43 : decode cX4_forget 43 = .ok (.aload_n 0, 1) := by decide +kernel
theorem dX4_forget_44 : decode cX4_forget 44 = .ok (.getfield 7, 3) := by decide +kernel
theorem dX4_forget_47 : decode cX4_forget 47 = .ok (.bipush 21, 2) := by decide +kernel
theorem dX4_forget_49 : decode cX4_forget 49 = .ok (.iconst 0, 1) := by decide +kernel
theorem dX4_forget_50 : decode cX4_forget 50 = .ok (.iastore, 1) := by decide +kernel
theorem dX4_forget_51 : decode cX4_forget 51 = .ok (.aload_n 0, 1) := by decide +kernel
theorem dX4_forget_52 : decode cX4_forget 52 = .ok (.getfield 7, 3) := by decide +kernel
theorem dX4_forget_55 : decode cX4_forget 55 = .ok (.bipush 22, 2) := by decide +kernel
theorem dX4_forget_57 : decode cX4_forget 57 = .ok (.iconst 0, 1) := by decide +kernel
theorem dX4_forget_58 : decode cX4_forget 58 = .ok (.iastore, 1) := by decide +kernel
theorem dX4_forget_59 : decode cX4_forget 59 = .ok (.bipush 23, 2) := by decide +kernel
theorem dX4_forget_61 : decode cX4_forget 61 = .ok (.istore_n 1, 1) := by decide +kernel
theorem dX4_forget_62 : decode cX4_forget 62 = .ok (.iload_n 1, 1) := by decide +kernel
theorem dX4_forget_63 : decode cX4_forget 63 = .ok (.bipush 71, 2) := by decide +kernel
theorem dX4_forget_65 : decode cX4_forget 65 = .ok (.if_icmp .ge 16, 3) := by decide +kernel
theorem dX4_forget_68 : decode cX4_forget 68 = .ok (.aload_n 0, 1) := by decide +kernel
theorem dX4_forget_69 : decode cX4_forget 69 = .ok (.getfield 7, 3) := by decide +kernel
theorem dX4_forget_72 : decode cX4_forget 72 = .ok (.iload_n 1, 1) := by decide +kernel
theorem dX4_forget_73 : decode cX4_forget 73 = .ok (.iconst 0, 1) := by decide +kernel
theorem dX4_forget_74 : decode cX4_forget 74 = .ok (.iastore, 1) := by decide +kernel
theorem dX4_forget_75 : decode cX4_forget 75 = .ok (.iinc 1 1, 3) := by decide +kernel
theorem dX4_forget_78 : decode cX4_forget 78 = .ok (.goto (-16), 3) := by decide +kernel
theorem dX4_forget_81 : decode cX4_forget 81 = .ok (.return_, 1) := by decide +kernel
theorem dX4_note_0 : decode cX4_note 0 = .ok (.aload_n 0, 1) := by decide +kernel
theorem dX4_note_1 : decode cX4_note 1 = .ok (.getfield 28, 3) := by decide +kernel
theorem dX4_note_4 : decode cX4_note 4 = .ok (.iconst 4, 1) := by decide +kernel
theorem dX4_note_5 : decode cX4_note 5 = .ok (.if_icmp .ne 43, 3) := by decide +kernel
theorem dX4_note_8 : decode cX4_note 8 = .ok (.iconst 0, 1) := by decide +kernel
theorem dX4_note_9 : decode cX4_note 9 = .ok (.istore_n 1, 1) := by decide +kernel
theorem dX4_note_10 : decode cX4_note 10 = .ok (.iload_n 1, 1) := by decide +kernel
theorem dX4_note_11 : decode cX4_note 11 = .ok (.sipush 213, 3) := by decide +kernel
theorem dX4_note_14 : decode cX4_note 14 = .ok (.if_icmp .ge 24, 3) := by decide +kernel
theorem dX4_note_17 : decode cX4_note 17 = .ok (.aload_n 0, 1) := by decide +kernel
theorem dX4_note_18 : decode cX4_note 18 = .ok (.getfield 13, 3) := by decide +kernel
theorem dX4_note_21 : decode cX4_note 21 = .ok (.iload_n 1, 1) := by decide +kernel
