theorem dX4_forecastVariance_36 : decode cX4_forecastVariance 36 = .ok (.ldc 92, 2) := by decide +kernel
theorem dX4_forecastVariance_38 : decode cX4_forecastVariance 38 = .ok (.invokevirtual 74, 3) := by decide +kernel
theorem dX4_forecastVariance_41 : decode cX4_forecastVariance 41 = .ok (.ireturn, 1) := by decide +kernel
set_option maxRecDepth 20000 in
theorem ggX4_stepsTo_X4_in : GoodIn wsX4_stepsTo wsX4_in := goodIn_r _ [10] (by decide +kernel) (by decide +kernel)
set_option maxRecDepth 20000 in
theorem gX4_stepsTo_X4_in : GoodIn wsX4_stepsTo (va_wsS RX4 68 yX4_in wsX4_in) := goodIn_app (goodIn_of _ (by decide +kernel)) ggX4_stepsTo_X4_in
set_option maxRecDepth 20000 in
theorem ggX4_stepsTo_X4_fail : GoodIn wsX4_stepsTo wsX4_fail := goodIn_r _ [14, 15, 3, 30, 31, 32, 33, 34, 35, 36, 37, 38] (by decide +kernel) (by decide +kernel)
set_option maxRecDepth 20000 in
theorem gX4_stepsTo_X4_fail : GoodIn wsX4_stepsTo (wsV RX4 74 RX4 yX4_fail wsX4_fail) := goodIn_app (goodIn_of _ (by decide +kernel)) ggX4_stepsTo_X4_fail
set_option maxRecDepth 20000 in
theorem ggX4_stepsTo_X4_take : GoodIn wsX4_stepsTo wsX4_take := goodIn_r _ [19, 5, 4, 30, 31, 32, 33, 34, 35, 36, 37, 38] (by decide +kernel) (by decide +kernel)
set_option maxRecDepth 20000 in
theorem gX4_stepsTo_X4_take : GoodIn wsX4_stepsTo (wsV RX4 85 RX4 yX4_take wsX4_take) := goodIn_app (goodIn_of _ (by decide +kernel)) ggX4_stepsTo_X4_take
set_option maxRecDepth 20000 in
theorem ggX4_stepsTo_X4_predicts : GoodIn wsX4_stepsTo wsX4_predicts := goodIn_r _ [23, 5, 24, 4, 25, 26, 9, 27, 28, 29, 30, 31, 32, 33, 34, 35, 36, 37, 38] (by decide +kernel) (by decide +kernel)
set_option maxRecDepth 20000 in
theorem gX4_stepsTo_X4_predicts : GoodIn wsX4_stepsTo (wsV RX4 88 RX4 yX4_predicts wsX4_predicts) := goodIn_app (goodIn_of _ (by decide +kernel)) ggX4_stepsTo_X4_predicts
theorem dX4_stepsTo_0 : decode cX4_stepsTo 0 = .ok (.iload_n 1, 1) := by decide +kernel
theorem dX4_stepsTo_1 : decode cX4_stepsTo 1 = .ok (.ldc 66, 2) := by decide +kernel
theorem dX4_stepsTo_3 : decode cX4_stepsTo 3 = .ok (.ldc 67, 2) := by decide +kernel
theorem dX4_stepsTo_5 : decode cX4_stepsTo 5 = .ok (.invokestatic 68, 3) := by decide +kernel
theorem dX4_stepsTo_8 : decode cX4_stepsTo 8 = .ok (.ifCond .ne 10, 3) := by decide +kernel
theorem dX4_stepsTo_11 : decode cX4_stepsTo 11 = .ok (.aload_n 0, 1) := by decide +kernel
theorem dX4_stepsTo_12 : decode cX4_stepsTo 12 = .ok (.ldc 26, 2) := by decide +kernel
theorem dX4_stepsTo_14 : decode cX4_stepsTo 14 = .ok (.invokevirtual 74, 3) := by decide +kernel
theorem dX4_stepsTo_17 : decode cX4_stepsTo 17 = .ok (.ireturn, 1) := by decide +kernel
theorem dX4_stepsTo_18 : decode cX4_stepsTo 18 = .ok (.aload_n 0, 1) := by decide +kernel
theorem dX4_stepsTo_19 : decode cX4_stepsTo 19 = .ok (.getfield 7, 3) := by decide +kernel
theorem dX4_stepsTo_22 : decode cX4_stepsTo 22 = .ok (.iconst 0, 1) := by decide +kernel
theorem dX4_stepsTo_23 : decode cX4_stepsTo 23 = .ok (.iaload, 1) := by decide +kernel
theorem dX4_stepsTo_24 : decode cX4_stepsTo 24 = .ok (.iload_n 1, 1) := by decide +kernel
theorem dX4_stepsTo_25 : decode cX4_stepsTo 25 = .ok (.if_icmp .ge 7, 3) := by decide +kernel
theorem dX4_stepsTo_28 : decode cX4_stepsTo 28 = .ok (.iconst 1, 1) := by decide +kernel
theorem dX4_stepsTo_29 : decode cX4_stepsTo 29 = .ok (.goto 4, 3) := by decide +kernel
theorem dX4_stepsTo_32 : decode cX4_stepsTo 32 = .ok (.iconst 0, 1) := by decide +kernel
theorem dX4_stepsTo_33 : decode cX4_stepsTo 33 = .ok (.istore_n 2, 1) := by decide +kernel
theorem dX4_stepsTo_34 : decode cX4_stepsTo 34 = .ok (.aload_n 0, 1) := by decide +kernel
theorem dX4_stepsTo_35 : decode cX4_stepsTo 35 = .ok (.getfield 7, 3) := by decide +kernel
theorem dX4_stepsTo_38 : decode cX4_stepsTo 38 = .ok (.iconst 0, 1) := by decide +kernel
theorem dX4_stepsTo_39 : decode cX4_stepsTo 39 = .ok (.iaload, 1) := by decide +kernel
theorem dX4_stepsTo_40 : decode cX4_stepsTo 40 = .ok (.iload_n 1, 1) := by decide +kernel
theorem dX4_stepsTo_41 : decode cX4_stepsTo 41 = .ok (.if_icmp .le 7, 3) := by decide +kernel
theorem dX4_stepsTo_44 : decode cX4_stepsTo 44 = .ok (.iconst 1, 1) := by decide +kernel
theorem dX4_stepsTo_45 : decode cX4_stepsTo 45 = .ok (.goto 4, 3) := by decide +kernel
theorem dX4_stepsTo_48 : decode cX4_stepsTo 48 = .ok (.iconst 0, 1) := by decide +kernel
theorem dX4_stepsTo_49 : decode cX4_stepsTo 49 = .ok (.istore_n 3, 1) := by decide +kernel
theorem dX4_stepsTo_50 : decode cX4_stepsTo 50 = .ok (.aload_n 0, 1) := by decide +kernel
theorem dX4_stepsTo_51 : decode cX4_stepsTo 51 = .ok (.invokevirtual 85, 3) := by decide +kernel
theorem dX4_stepsTo_54 : decode cX4_stepsTo 54 = .ok (.iconst 0, 1) := by decide +kernel
theorem dX4_stepsTo_55 : decode cX4_stepsTo 55 = .ok (.istore 4, 2) := by decide +kernel
theorem dX4_stepsTo_57 : decode cX4_stepsTo 57 = .ok (.iload_n 2, 1) := by decide +kernel
theorem dX4_stepsTo_58 : decode cX4_stepsTo 58 = .ok (.ifCond .eq 15, 3) := by decide +kernel
theorem dX4_stepsTo_61 : decode cX4_stepsTo 61 = .ok (.aload_n 0, 1) := by decide +kernel
theorem dX4_stepsTo_62 : decode cX4_stepsTo 62 = .ok (.getfield 19, 3) := by decide +kernel
theorem dX4_stepsTo_65 : decode cX4_stepsTo 65 = .ok (.iconst 0, 1) := by decide +kernel
theorem dX4_stepsTo_66 : decode cX4_stepsTo 66 = .ok (.laload, 1) := by decide +kernel
theorem dX4_stepsTo_67 : decode cX4_stepsTo 67 = .ok (.iload_n 1, 1) := by decide +kernel
theorem dX4_stepsTo_68 : decode cX4_stepsTo 68 = .ok (.i2l, 1) := by decide +kernel
theorem dX4_stepsTo_69 : decode cX4_stepsTo 69 = .ok (.lcmp, 1) := by decide +kernel
theorem dX4_stepsTo_70 : decode cX4_stepsTo 70 = .ok (.ifCond .lt 19, 3) := by decide +kernel
theorem dX4_stepsTo_73 : decode cX4_stepsTo 73 = .ok (.iload_n 3, 1) := by decide +kernel
theorem dX4_stepsTo_74 : decode cX4_stepsTo 74 = .ok (.ifCond .eq 46, 3) := by decide +kernel
theorem dX4_stepsTo_77 : decode cX4_stepsTo 77 = .ok (.aload_n 0, 1) := by decide +kernel
theorem dX4_stepsTo_78 : decode cX4_stepsTo 78 = .ok (.getfield 19, 3) := by decide +kernel
theorem dX4_stepsTo_81 : decode cX4_stepsTo 81 = .ok (.iconst 0, 1) := by decide +kernel
theorem dX4_stepsTo_82 : decode cX4_stepsTo 82 = .ok (.laload, 1) := by decide +kernel
theorem dX4_stepsTo_83 : decode cX4_stepsTo 83 = .ok (.iload_n 1, 1) := by decide +kernel
theorem dX4_stepsTo_84 : decode cX4_stepsTo 84 = .ok (.i2l, 1) := by decide +kernel
theorem dX4_stepsTo_85 : decode cX4_stepsTo 85 = .ok (.lcmp, 1) := by decide +kernel
theorem dX4_stepsTo_86 : decode cX4_stepsTo 86 = .ok (.ifCond .le 34, 3) := by decide +kernel
theorem dX4_stepsTo_89 : decode cX4_stepsTo 89 = .ok (.iload 4, 2) := by decide +kernel
theorem dX4_stepsTo_91 : decode cX4_stepsTo 91 = .ok (.bipush 100, 2) := by decide +kernel
theorem dX4_stepsTo_93 : decode cX4_stepsTo 93 = .ok (.if_icmp .eq 18, 3) := by decide +kernel
theorem dX4_stepsTo_96 : decode cX4_stepsTo 96 = .ok (.aload_n 0, 1) := by decide +kernel
theorem dX4_stepsTo_97 : decode cX4_stepsTo 97 = .ok (.iconst 0, 1) := by decide +kernel
theorem dX4_stepsTo_98 : decode cX4_stepsTo 98 = .ok (.aload_n 0, 1) := by decide +kernel
theorem dX4_stepsTo_99 : decode cX4_stepsTo 99 = .ok (.getfield 7, 3) := by decide +kernel
theorem dX4_stepsTo_102 : decode cX4_stepsTo 102 = .ok (.bipush 6, 2) := by decide +kernel
theorem dX4_stepsTo_104 : decode cX4_stepsTo 104 = .ok (.iaload, 1) := by decide +kernel
theorem dX4_stepsTo_105 : decode cX4_stepsTo 105 = .ok (.invokevirtual 88, 3) := by decide +kernel
theorem dX4_stepsTo_108 : decode cX4_stepsTo 108 = .ok (.ifCond .ne 6, 3) := by decide +kernel
theorem dX4_stepsTo_111 : decode cX4_stepsTo 111 = .ok (.ldc 27, 2) := by decide +kernel
theorem dX4_stepsTo_113 : decode cX4_stepsTo 113 = .ok (.ireturn, 1) := by decide +kernel
theorem dX4_stepsTo_114 : decode cX4_stepsTo 114 = .ok (.iinc 4 1, 3) := by decide +kernel
theorem dX4_stepsTo_117 : decode cX4_stepsTo 117 = .ok (.goto (-60), 3) := by decide +kernel
theorem dX4_stepsTo_120 : decode cX4_stepsTo 120 = .ok (.iload 4, 2) := by decide +kernel
theorem dX4_stepsTo_122 : decode cX4_stepsTo 122 = .ok (.ireturn, 1) := by decide +kernel
set_option maxRecDepth 20000 in
theorem ggX4_cycles_X4_take : GoodIn wsX4_cycles wsX4_take := goodIn_r _ [8, 1, 2, 37, 38, 39, 40, 41, 42, 43, 44, 45] (by decide +kernel) (by decide +kernel)
set_option maxRecDepth 20000 in
theorem gX4_cycles_X4_take : GoodIn wsX4_cycles (wsV RX4 85 RX4 yX4_take wsX4_take) := goodIn_app (goodIn_of _ (by decide +kernel)) ggX4_cycles_X4_take
set_option maxRecDepth 20000 in
theorem ggX4_cycles_X4_predicts : GoodIn wsX4_cycles wsX4_predicts := goodIn_r _ [12, 1, 13, 2, 14, 15, 7, 16, 17, 18, 37, 38, 39, 40, 41, 42, 43, 44, 45] (by decide +kernel) (by decide +kernel)
set_option maxRecDepth 20000 in
theorem gX4_cycles_X4_predicts : GoodIn wsX4_cycles (wsV RX4 88 RX4 yX4_predicts wsX4_predicts) := goodIn_app (goodIn_of _ (by decide +kernel)) ggX4_cycles_X4_predicts
set_option maxRecDepth 20000 in
theorem ggX4_cycles_X4_corrects : GoodIn wsX4_cycles wsX4_corrects := goodIn_r _ [22, 2, 1, 23, 24, 25, 26, 27, 28, 7, 29, 13, 30, 31, 32, 14, 15, 16, 17, 18, 33, 34, 35, 36, 37, 38, 39, 40, 41, 42, 43, 44, 45] (by decide +kernel) (by decide +kernel)
set_option maxRecDepth 20000 in
theorem gX4_cycles_X4_corrects : GoodIn wsX4_cycles (wsV RX4 100 RX4 yX4_corrects wsX4_corrects) := goodIn_app (goodIn_of _ (by decide +kernel)) ggX4_cycles_X4_corrects
theorem dX4_cycles_0 : decode cX4_cycles 0 = .ok (.aload_n 0, 1) := by decide +kernel
theorem dX4_cycles_1 : decode cX4_cycles 1 = .ok (.invokevirtual 85, 3) := by decide +kernel
theorem dX4_cycles_4 : decode cX4_cycles 4 = .ok (.iconst 1, 1) := by decide +kernel
theorem dX4_cycles_5 : decode cX4_cycles 5 = .ok (.istore_n 2, 1) := by decide +kernel
theorem dX4_cycles_6 : decode cX4_cycles 6 = .ok (.iload_n 2, 1) := by decide +kernel
theorem dX4_cycles_7 : decode cX4_cycles 7 = .ok (.sipush 300, 3) := by decide +kernel
theorem dX4_cycles_10 : decode cX4_cycles 10 = .ok (.if_icmp .gt 130, 3) := by decide +kernel
theorem dX4_cycles_13 : decode cX4_cycles 13 = .ok (.aload_n 0, 1) := by decide +kernel
theorem dX4_cycles_14 : decode cX4_cycles 14 = .ok (.getfield 19, 3) := by decide +kernel
theorem dX4_cycles_17 : decode cX4_cycles 17 = .ok (.iconst 2, 1) := by decide +kernel
theorem dX4_cycles_18 : decode cX4_cycles 18 = .ok (.laload, 1) := by decide +kernel
theorem dX4_cycles_19 : decode cX4_cycles 19 = .ok (.lstore_n 3, 1) := by decide +kernel
theorem dX4_cycles_20 : decode cX4_cycles 20 = .ok (.aload_n 0, 1) := by decide +kernel
theorem dX4_cycles_21 : decode cX4_cycles 21 = .ok (.getfield 19, 3) := by decide +kernel
theorem dX4_cycles_24 : decode cX4_cycles 24 = .ok (.iconst 3, 1) := by decide +kernel
theorem dX4_cycles_25 : decode cX4_cycles 25 = .ok (.laload, 1) := by decide +kernel
theorem dX4_cycles_26 : decode cX4_cycles 26 = .ok (.lstore 5, 2) := by decide +kernel
theorem dX4_cycles_28 : decode cX4_cycles 28 = .ok (.aload_n 0, 1) := by decide +kernel
theorem dX4_cycles_29 : decode cX4_cycles 29 = .ok (.getfield 19, 3) := by decide +kernel
theorem dX4_cycles_32 : decode cX4_cycles 32 = .ok (.iconst 4, 1) := by decide +kernel
theorem dX4_cycles_33 : decode cX4_cycles 33 = .ok (.laload, 1) := by decide +kernel
theorem dX4_cycles_34 : decode cX4_cycles 34 = .ok (.lstore 7, 2) := by decide +kernel
theorem dX4_cycles_36 : decode cX4_cycles 36 = .ok (.aload_n 0, 1) := by decide +kernel
theorem dX4_cycles_37 : decode cX4_cycles 37 = .ok (.iconst 0, 1) := by decide +kernel
theorem dX4_cycles_38 : decode cX4_cycles 38 = .ok (.aload_n 0, 1) := by decide +kernel
theorem dX4_cycles_39 : decode cX4_cycles 39 = .ok (.getfield 7, 3) := by decide +kernel
theorem dX4_cycles_42 : decode cX4_cycles 42 = .ok (.bipush 6, 2) := by decide +kernel
theorem dX4_cycles_44 : decode cX4_cycles 44 = .ok (.iaload, 1) := by decide +kernel
theorem dX4_cycles_45 : decode cX4_cycles 45 = .ok (.invokevirtual 88, 3) := by decide +kernel
theorem dX4_cycles_48 : decode cX4_cycles 48 = .ok (.ifCond .ne 6, 3) := by decide +kernel
theorem dX4_cycles_51 : decode cX4_cycles 51 = .ok (.ldc 27, 2) := by decide +kernel
theorem dX4_cycles_53 : decode cX4_cycles 53 = .ok (.ireturn, 1) := by decide +kernel
theorem dX4_cycles_54 : decode cX4_cycles 54 = .ok (.aload_n 0, 1) := by decide +kernel
theorem dX4_cycles_55 : decode cX4_cycles 55 = .ok (.iload_n 1, 1) := by decide +kernel
theorem dX4_cycles_56 : decode cX4_cycles 56 = .ok (.aload_n 0, 1) := by decide +kernel
theorem dX4_cycles_57 : decode cX4_cycles 57 = .ok (.getfield 7, 3) := by decide +kernel
theorem dX4_cycles_60 : decode cX4_cycles 60 = .ok (.bipush 8, 2) := by decide +kernel
theorem dX4_cycles_62 : decode cX4_cycles 62 = .ok (.iload_n 1, 1) := by decide +kernel
theorem dX4_cycles_63 : decode cX4_cycles 63 = .ok (.iadd, 1) := by decide +kernel
theorem dX4_cycles_64 : decode cX4_cycles 64 = .ok (.iaload, 1) := by decide +kernel
theorem dX4_cycles_65 : decode cX4_cycles 65 = .ok (.ifCond .ne 12, 3) := by decide +kernel
theorem dX4_cycles_68 : decode cX4_cycles 68 = .ok (.aload_n 0, 1) := by decide +kernel
theorem dX4_cycles_69 : decode cX4_cycles 69 = .ok (.getfield 19, 3) := by decide +kernel
theorem dX4_cycles_72 : decode cX4_cycles 72 = .ok (.iconst 0, 1) := by decide +kernel
theorem dX4_cycles_73 : decode cX4_cycles 73 = .ok (.laload, 1) := by decide +kernel
theorem dX4_cycles_74 : decode cX4_cycles 74 = .ok (.goto 9, 3) := by decide +kernel
theorem dX4_cycles_77 : decode cX4_cycles 77 = .ok (.aload_n 0, 1) := by decide +kernel
theorem dX4_cycles_78 : decode cX4_cycles 78 = .ok (.getfield 19, 3) := by decide +kernel
theorem dX4_cycles_81 : decode cX4_cycles 81 = .ok (.iconst 1, 1) := by decide +kernel
theorem dX4_cycles_82 : decode cX4_cycles 82 = .ok (.laload, 1) := by decide +kernel
theorem dX4_cycles_83 : decode cX4_cycles 83 = .ok (.iconst 0, 1) := by decide +kernel
theorem dX4_cycles_84 : decode cX4_cycles 84 = .ok (.invokevirtual 100, 3) := by decide +kernel
theorem dX4_cycles_87 : decode cX4_cycles 87 = .ok (.istore 9, 2) := by decide +kernel
theorem dX4_cycles_89 : decode cX4_cycles 89 = .ok (.iload 9, 2) := by decide +kernel
theorem dX4_cycles_91 : decode cX4_cycles 91 = .ok (.ifCond .ge 6, 3) := by decide +kernel
theorem dX4_cycles_94 : decode cX4_cycles 94 = .ok (.ldc 27, 2) := by decide +kernel
theorem dX4_cycles_96 : decode cX4_cycles 96 = .ok (.ireturn, 1) := by decide +kernel
theorem dX4_cycles_97 : decode cX4_cycles 97 = .ok (.aload_n 0, 1) := by decide +kernel
theorem dX4_cycles_98 : decode cX4_cycles 98 = .ok (.getfield 19, 3) := by decide +kernel
theorem dX4_cycles_101 : decode cX4_cycles 101 = .ok (.iconst 2, 1) := by decide +kernel
theorem dX4_cycles_102 : decode cX4_cycles 102 = .ok (.laload, 1) := by decide +kernel
theorem dX4_cycles_103 : decode cX4_cycles 103 = .ok (.lload_n 3, 1) := by decide +kernel
theorem dX4_cycles_104 : decode cX4_cycles 104 = .ok (.lcmp, 1) := by decide +kernel
theorem dX4_cycles_105 : decode cX4_cycles 105 = .ok (.ifCond .ne 29, 3) := by decide +kernel
theorem dX4_cycles_108 : decode cX4_cycles 108 = .ok (.aload_n 0, 1) := by decide +kernel
theorem dX4_cycles_109 : decode cX4_cycles 109 = .ok (.getfield 19, 3) := by decide +kernel
theorem dX4_cycles_112 : decode cX4_cycles 112 = .ok (.iconst 3, 1) := by decide +kernel
theorem dX4_cycles_113 : decode cX4_cycles 113 = .ok (.laload, 1) := by decide +kernel
theorem dX4_cycles_114 : decode cX4_cycles 114 = .ok (.lload 5, 2) := by decide +kernel
theorem dX4_cycles_116 : decode cX4_cycles 116 = .ok (.lcmp, 1) := by decide +kernel
theorem dX4_cycles_117 : decode cX4_cycles 117 = .ok (.ifCond .ne 17, 3) := by decide +kernel
theorem dX4_cycles_120 : decode cX4_cycles 120 = .ok (.aload_n 0, 1) := by decide +kernel
theorem dX4_cycles_121 : decode cX4_cycles 121 = .ok (.getfield 19, 3) := by decide +kernel
theorem dX4_cycles_124 : decode cX4_cycles 124 = .ok (.iconst 4, 1) := by decide +kernel
theorem dX4_cycles_125 : decode cX4_cycles 125 = .ok (.laload, 1) := by decide +kernel
theorem dX4_cycles_126 : decode cX4_cycles 126 = .ok (.lload 7, 2) := by decide +kernel
theorem dX4_cycles_128 : decode cX4_cycles 128 = .ok (.lcmp, 1) := by decide +kernel
theorem dX4_cycles_129 : decode cX4_cycles 129 = .ok (.ifCond .ne 5, 3) := by decide +kernel
theorem dX4_cycles_132 : decode cX4_cycles 132 = .ok (.iload_n 2, 1) := by decide +kernel
theorem dX4_cycles_133 : decode cX4_cycles 133 = .ok (.ireturn, 1) := by decide +kernel
theorem dX4_cycles_134 : decode cX4_cycles 134 = .ok (.iinc 2 1, 3) := by decide +kernel
theorem dX4_cycles_137 : decode cX4_cycles 137 = .ok (.goto (-131), 3) := by decide +kernel
theorem dX4_cycles_140 : decode cX4_cycles 140 = .ok (.ldc 27, 2) := by decide +kernel
theorem dX4_cycles_142 : decode cX4_cycles 142 = .ok (.ireturn, 1) := by decide +kernel
set_option maxRecDepth 20000 in
theorem ggX4_steadyCycles_X4_isSensor : GoodIn wsX4_steadyCycles wsX4_isSensor := goodIn_r _ [5, 6, 7, 4, 8] (by decide +kernel) (by decide +kernel)
set_option maxRecDepth 20000 in
theorem gX4_steadyCycles_X4_isSensor : GoodIn wsX4_steadyCycles (va_wsS RX4 81 yX4_isSensor wsX4_isSensor) := goodIn_app (goodIn_of _ (by decide +kernel)) ggX4_steadyCycles_X4_isSensor
set_option maxRecDepth 20000 in
theorem ggX4_steadyCycles_X4_cycles : GoodIn wsX4_steadyCycles wsX4_cycles := goodIn_r _ [12, 13, 14, 15, 16, 17, 18, 4, 19, 20, 21, 22, 23, 24, 25, 26, 27, 28, 29, 30, 31, 32, 33, 34, 35, 36, 37, 38, 39, 40, 41, 42, 43, 44, 45, 46, 47, 53, 54, 55, 56, 57, 58, 59, 60, 61] (by decide +kernel) (by decide +kernel)
set_option maxRecDepth 20000 in
theorem gX4_steadyCycles_X4_cycles : GoodIn wsX4_steadyCycles (wsV RX4 107 RX4 yX4_cycles wsX4_cycles) := goodIn_app (goodIn_of _ (by decide +kernel)) ggX4_steadyCycles_X4_cycles
set_option maxRecDepth 20000 in
theorem ggX4_steadyCycles_X4_fail : GoodIn wsX4_steadyCycles wsX4_fail := goodIn_r _ [51, 52, 1, 53, 54, 55, 56, 57, 58, 59, 60, 61] (by decide +kernel) (by decide +kernel)
set_option maxRecDepth 20000 in
theorem gX4_steadyCycles_X4_fail : GoodIn wsX4_steadyCycles (wsV RX4 74 RX4 yX4_fail wsX4_fail) := goodIn_app (goodIn_of _ (by decide +kernel)) ggX4_steadyCycles_X4_fail
theorem dX4_steadyCycles_0 : decode cX4_steadyCycles 0 = .ok (.iload_n 1, 1) := by decide +kernel
theorem dX4_steadyCycles_1 : decode cX4_steadyCycles 1 = .ok (.invokestatic 81, 3) := by decide +kernel
theorem dX4_steadyCycles_4 : decode cX4_steadyCycles 4 = .ok (.ifCond .eq 11, 3) := by decide +kernel
theorem dX4_steadyCycles_7 : decode cX4_steadyCycles 7 = .ok (.aload_n 0, 1) := by decide +kernel
theorem dX4_steadyCycles_8 : decode cX4_steadyCycles 8 = .ok (.iload_n 1, 1) := by decide +kernel
theorem dX4_steadyCycles_9 : decode cX4_steadyCycles 9 = .ok (.invokevirtual 107, 3) := by decide +kernel
theorem dX4_steadyCycles_12 : decode cX4_steadyCycles 12 = .ok (.goto 9, 3) := by decide +kernel
theorem dX4_steadyCycles_15 : decode cX4_steadyCycles 15 = .ok (.aload_n 0, 1) := by decide +kernel
theorem dX4_steadyCycles_16 : decode cX4_steadyCycles 16 = .ok (.ldc 26, 2) := by decide +kernel
theorem dX4_steadyCycles_18 : decode cX4_steadyCycles 18 = .ok (.invokevirtual 74, 3) := by decide +kernel
theorem dX4_steadyCycles_21 : decode cX4_steadyCycles 21 = .ok (.ireturn, 1) := by decide +kernel
set_option maxRecDepth 20000 in
theorem ggX4_steadyGain_X4_isSensor : GoodIn wsX4_steadyGain wsX4_isSensor := goodIn_r _ [8, 9, 10, 7, 11] (by decide +kernel) (by decide +kernel)
set_option maxRecDepth 20000 in
theorem gX4_steadyGain_X4_isSensor : GoodIn wsX4_steadyGain (va_wsS RX4 81 yX4_isSensor wsX4_isSensor) := goodIn_app (goodIn_of _ (by decide +kernel)) ggX4_steadyGain_X4_isSensor
set_option maxRecDepth 20000 in
theorem ggX4_steadyGain_X4_in : GoodIn wsX4_steadyGain wsX4_in := goodIn_r _ [11] (by decide +kernel) (by decide +kernel)
set_option maxRecDepth 20000 in
theorem gX4_steadyGain_X4_in : GoodIn wsX4_steadyGain (va_wsS RX4 68 yX4_in wsX4_in) := goodIn_app (goodIn_of _ (by decide +kernel)) ggX4_steadyGain_X4_in
set_option maxRecDepth 20000 in
theorem ggX4_steadyGain_X4_fail : GoodIn wsX4_steadyGain wsX4_fail := goodIn_r _ [15, 16, 1, 53, 54, 55, 56, 57, 58, 59, 60, 61] (by decide +kernel) (by decide +kernel)
set_option maxRecDepth 20000 in
theorem gX4_steadyGain_X4_fail : GoodIn wsX4_steadyGain (wsV RX4 74 RX4 yX4_fail wsX4_fail) := goodIn_app (goodIn_of _ (by decide +kernel)) ggX4_steadyGain_X4_fail
set_option maxRecDepth 20000 in
theorem ggX4_steadyGain_X4_cycles : GoodIn wsX4_steadyGain wsX4_cycles := goodIn_r _ [20, 21, 22, 2, 23, 24, 25, 7, 26, 27, 28, 29, 30, 31, 32, 33, 34, 35, 36, 37, 38, 39, 40, 41, 42, 3, 4, 43, 44, 45, 46, 47, 48, 49, 50, 51, 52, 53, 54, 55, 56, 57, 58, 59, 60, 61] (by decide +kernel) (by decide +kernel)
set_option maxRecDepth 20000 in
theorem gX4_steadyGain_X4_cycles : GoodIn wsX4_steadyGain (wsV RX4 107 RX4 yX4_cycles wsX4_cycles) := goodIn_app (goodIn_of _ (by decide +kernel)) ggX4_steadyGain_X4_cycles
theorem dX4_steadyGain_0 : decode cX4_steadyGain 0 = .ok (.iload_n 1, 1) := by decide +kernel
theorem dX4_steadyGain_1 : decode cX4_steadyGain 1 = .ok (.invokestatic 81, 3) := by decide +kernel
theorem dX4_steadyGain_4 : decode cX4_steadyGain 4 = .ok (.ifCond .eq 12, 3) := by decide +kernel
theorem dX4_steadyGain_7 : decode cX4_steadyGain 7 = .ok (.iload_n 2, 1) := by decide +kernel
theorem dX4_steadyGain_8 : decode cX4_steadyGain 8 = .ok (.iconst 0, 1) := by decide +kernel
theorem dX4_steadyGain_9 : decode cX4_steadyGain 9 = .ok (.iconst 1, 1) := by decide +kernel
theorem dX4_steadyGain_10 : decode cX4_steadyGain 10 = .ok (.invokestatic 68, 3) := by decide +kernel
theorem dX4_steadyGain_13 : decode cX4_steadyGain 13 = .ok (.ifCond .ne 10, 3) := by decide +kernel
theorem dX4_steadyGain_16 : decode cX4_steadyGain 16 = .ok (.aload_n 0, 1) := by decide +kernel
theorem dX4_steadyGain_17 : decode cX4_steadyGain 17 = .ok (.ldc 26, 2) := by decide +kernel
theorem dX4_steadyGain_19 : decode cX4_steadyGain 19 = .ok (.invokevirtual 74, 3) := by decide +kernel
theorem dX4_steadyGain_22 : decode cX4_steadyGain 22 = .ok (.ireturn, 1) := by decide +kernel
theorem dX4_steadyGain_23 : decode cX4_steadyGain 23 = .ok (.aload_n 0, 1) := by decide +kernel
theorem dX4_steadyGain_24 : decode cX4_steadyGain 24 = .ok (.iload_n 1, 1) := by decide +kernel
theorem dX4_steadyGain_25 : decode cX4_steadyGain 25 = .ok (.invokevirtual 107, 3) := by decide +kernel
theorem dX4_steadyGain_28 : decode cX4_steadyGain 28 = .ok (.istore_n 3, 1) := by decide +kernel
theorem dX4_steadyGain_29 : decode cX4_steadyGain 29 = .ok (.iload_n 3, 1) := by decide +kernel
theorem dX4_steadyGain_30 : decode cX4_steadyGain 30 = .ok (.ldc 27, 2) := by decide +kernel
theorem dX4_steadyGain_32 : decode cX4_steadyGain 32 = .ok (.if_icmp .ne 8, 3) := by decide +kernel
theorem dX4_steadyGain_35 : decode cX4_steadyGain 35 = .ok (.ldc 27, 2) := by decide +kernel
theorem dX4_steadyGain_37 : decode cX4_steadyGain 37 = .ok (.goto 19, 3) := by decide +kernel
theorem dX4_steadyGain_40 : decode cX4_steadyGain 40 = .ok (.iload_n 2, 1) := by decide +kernel
theorem dX4_steadyGain_41 : decode cX4_steadyGain 41 = .ok (.ifCond .ne 10, 3) := by decide +kernel
theorem dX4_steadyGain_44 : decode cX4_steadyGain 44 = .ok (.aload_n 0, 1) := by decide +kernel
theorem dX4_steadyGain_45 : decode cX4_steadyGain 45 = .ok (.getfield 60, 3) := by decide +kernel
theorem dX4_steadyGain_48 : decode cX4_steadyGain 48 = .ok (.goto 7, 3) := by decide +kernel
theorem dX4_steadyGain_51 : decode cX4_steadyGain 51 = .ok (.aload_n 0, 1) := by decide +kernel
theorem dX4_steadyGain_52 : decode cX4_steadyGain 52 = .ok (.getfield 63, 3) := by decide +kernel
theorem dX4_steadyGain_55 : decode cX4_steadyGain 55 = .ok (.l2i, 1) := by decide +kernel
theorem dX4_steadyGain_56 : decode cX4_steadyGain 56 = .ok (.ireturn, 1) := by decide +kernel
theorem dX4_hasReading_0 : decode cX4_hasReading 0 = .ok (.iconst 0, 1) := by decide +kernel
theorem dX4_hasReading_1 : decode cX4_hasReading 1 = .ok (.istore_n 1, 1) := by decide +kernel
theorem dX4_hasReading_2 : decode cX4_hasReading 2 = .ok (.iconst 0, 1) := by decide +kernel
theorem dX4_hasReading_3 : decode cX4_hasReading 3 = .ok (.istore_n 2, 1) := by decide +kernel
theorem dX4_hasReading_4 : decode cX4_hasReading 4 = .ok (.iload_n 2, 1) := by decide +kernel
theorem dX4_hasReading_5 : decode cX4_hasReading 5 = .ok (.aload_n 0, 1) := by decide +kernel
theorem dX4_hasReading_6 : decode cX4_hasReading 6 = .ok (.getfield 7, 3) := by decide +kernel
theorem dX4_hasReading_9 : decode cX4_hasReading 9 = .ok (.bipush 22, 2) := by decide +kernel
theorem dX4_hasReading_11 : decode cX4_hasReading 11 = .ok (.iaload, 1) := by decide +kernel
theorem dX4_hasReading_12 : decode cX4_hasReading 12 = .ok (.if_icmp .ge 34, 3) := by decide +kernel
theorem dX4_hasReading_15 : decode cX4_hasReading 15 = .ok (.iload_n 1, 1) := by decide +kernel
theorem dX4_hasReading_16 : decode cX4_hasReading 16 = .ok (.ifCond .ne 18, 3) := by decide +kernel
theorem dX4_hasReading_19 : decode cX4_hasReading 19 = .ok (.aload_n 0, 1) := by decide +kernel
theorem dX4_hasReading_20 : decode cX4_hasReading 20 = .ok (.getfield 7, 3) := by decide +kernel
theorem dX4_hasReading_23 : decode cX4_hasReading 23 = .ok (.bipush 23, 2) := by decide +kernel
theorem dX4_hasReading_25 : decode cX4_hasReading 25 = .ok (.iconst 2, 1) := by decide +kernel
theorem dX4_hasReading_26 : decode cX4_hasReading 26 = .ok (.iload_n 2, 1) := by decide +kernel
theorem dX4_hasReading_27 : decode cX4_hasReading 27 = .ok (.imul, 1) := by decide +kernel
theorem dX4_hasReading_28 : decode cX4_hasReading 28 = .ok (.iadd, 1) := by decide +kernel
theorem dX4_hasReading_29 : decode cX4_hasReading 29 = .ok (.iaload, 1) := by decide +kernel
theorem dX4_hasReading_30 : decode cX4_hasReading 30 = .ok (.iconst (-1), 1) := by decide +kernel
theorem dX4_hasReading_31 : decode cX4_hasReading 31 = .ok (.if_icmp .eq 7, 3) := by decide +kernel
theorem dX4_hasReading_34 : decode cX4_hasReading 34 = .ok (.iconst 1, 1) := by decide +kernel
theorem dX4_hasReading_35 : decode cX4_hasReading 35 = .ok (.goto 4, 3) := by decide +kernel
theorem dX4_hasReading_38 : decode cX4_hasReading 38 = .ok (.iconst 0, 1) := by decide +kernel
theorem dX4_hasReading_39 : decode cX4_hasReading 39 = .ok (.istore_n 1, 1) := by decide +kernel
theorem dX4_hasReading_40 : decode cX4_hasReading 40 = .ok (.iinc 2 1, 3) := by decide +kernel
theorem dX4_hasReading_43 : decode cX4_hasReading 43 = .ok (.goto (-39), 3) := by decide +kernel
theorem dX4_hasReading_46 : decode cX4_hasReading 46 = .ok (.iload_n 1, 1) := by decide +kernel
theorem dX4_hasReading_47 : decode cX4_hasReading 47 = .ok (.ireturn, 1) := by decide +kernel
set_option maxRecDepth 20000 in
theorem ggX4_errorOf_X4_take : GoodIn wsX4_errorOf wsX4_take := goodIn_r _ [8, 9, 1, 37, 38, 39, 40, 41, 42, 43, 44, 45] (by decide +kernel) (by decide +kernel)
set_option maxRecDepth 20000 in
theorem gX4_errorOf_X4_take : GoodIn wsX4_errorOf (wsV RX4 85 RX4 yX4_take wsX4_take) := goodIn_app (goodIn_of _ (by decide +kernel)) ggX4_errorOf_X4_take
set_option maxRecDepth 20000 in
theorem ggX4_errorOf_X4_predicts : GoodIn wsX4_errorOf wsX4_predicts := goodIn_r _ [13, 9, 14, 1, 15, 16, 7, 17, 18, 19, 37, 38, 39, 40, 41, 42, 43, 44, 45] (by decide +kernel) (by decide +kernel)
set_option maxRecDepth 20000 in
theorem gX4_errorOf_X4_predicts : GoodIn wsX4_errorOf (wsV RX4 88 RX4 yX4_predicts wsX4_predicts) := goodIn_app (goodIn_of _ (by decide +kernel)) ggX4_errorOf_X4_predicts
set_option maxRecDepth 20000 in
theorem ggX4_errorOf_X4_corrects : GoodIn wsX4_errorOf wsX4_corrects := goodIn_r _ [23, 1, 9, 3, 24, 25, 26, 27, 28, 7, 29, 14, 30, 31, 32, 15, 16, 17, 18, 19, 33, 34, 35, 36, 37, 38, 39, 40, 41, 42, 43, 44, 45] (by decide +kernel) (by decide +kernel)
set_option maxRecDepth 20000 in
theorem gX4_errorOf_X4_corrects : GoodIn wsX4_errorOf (wsV RX4 100 RX4 yX4_corrects wsX4_corrects) := goodIn_app (goodIn_of _ (by decide +kernel)) ggX4_errorOf_X4_corrects
set_option maxRecDepth 20000 in
theorem ggX4_errorOf_X4_isIn : GoodIn wsX4_errorOf wsX4_isIn := goodIn_r _ [17, 18, 19] (by decide +kernel) (by decide +kernel)
set_option maxRecDepth 20000 in
theorem gX4_errorOf_X4_isIn : GoodIn wsX4_errorOf (va_wsS RX4 46 yX4_isIn wsX4_isIn) := goodIn_app (goodIn_of _ (by decide +kernel)) ggX4_errorOf_X4_isIn
theorem dX4_errorOf_0 : decode cX4_errorOf 0 = .ok (.aload_n 0, 1) := by decide +kernel
theorem dX4_errorOf_1 : decode cX4_errorOf 1 = .ok (.invokevirtual 85, 3) := by decide +kernel
theorem dX4_errorOf_4 : decode cX4_errorOf 4 = .ok (.lconst 0, 1) := by decide +kernel
theorem dX4_errorOf_5 : decode cX4_errorOf 5 = .ok (.lstore_n 2, 1) := by decide +kernel
theorem dX4_errorOf_6 : decode cX4_errorOf 6 = .ok (.iconst 0, 1) := by decide +kernel
theorem dX4_errorOf_7 : decode cX4_errorOf 7 = .ok (.istore 4, 2) := by decide +kernel
theorem dX4_errorOf_9 : decode cX4_errorOf 9 = .ok (.iload 4, 2) := by decide +kernel
theorem dX4_errorOf_11 : decode cX4_errorOf 11 = .ok (.aload_n 0, 1) := by decide +kernel
theorem dX4_errorOf_12 : decode cX4_errorOf 12 = .ok (.getfield 7, 3) := by decide +kernel
theorem dX4_errorOf_15 : decode cX4_errorOf 15 = .ok (.bipush 22, 2) := by decide +kernel
theorem dX4_errorOf_17 : decode cX4_errorOf 17 = .ok (.iaload, 1) := by decide +kernel
theorem dX4_errorOf_18 : decode cX4_errorOf 18 = .ok (.if_icmp .ge 104, 3) := by decide +kernel
theorem dX4_errorOf_21 : decode cX4_errorOf 21 = .ok (.aload_n 0, 1) := by decide +kernel
theorem dX4_errorOf_22 : decode cX4_errorOf 22 = .ok (.getfield 7, 3) := by decide +kernel
theorem dX4_errorOf_25 : decode cX4_errorOf 25 = .ok (.bipush 23, 2) := by decide +kernel
theorem dX4_errorOf_27 : decode cX4_errorOf 27 = .ok (.iconst 2, 1) := by decide +kernel
theorem dX4_errorOf_28 : decode cX4_errorOf 28 = .ok (.iload 4, 2) := by decide +kernel
theorem dX4_errorOf_30 : decode cX4_errorOf 30 = .ok (.imul, 1) := by decide +kernel
theorem dX4_errorOf_31 : decode cX4_errorOf 31 = .ok (.iadd, 1) := by decide +kernel
theorem dX4_errorOf_32 : decode cX4_errorOf 32 = .ok (.iaload, 1) := by decide +kernel
theorem dX4_errorOf_33 : decode cX4_errorOf 33 = .ok (.istore 5, 2) := by decide +kernel
theorem dX4_errorOf_35 : decode cX4_errorOf 35 = .ok (.aload_n 0, 1) := by decide +kernel
theorem dX4_errorOf_36 : decode cX4_errorOf 36 = .ok (.getfield 7, 3) := by decide +kernel
theorem dX4_errorOf_39 : decode cX4_errorOf 39 = .ok (.bipush 23, 2) := by decide +kernel
theorem dX4_errorOf_41 : decode cX4_errorOf 41 = .ok (.iconst 2, 1) := by decide +kernel
theorem dX4_errorOf_42 : decode cX4_errorOf 42 = .ok (.iload 4, 2) := by decide +kernel
theorem dX4_errorOf_44 : decode cX4_errorOf 44 = .ok (.imul, 1) := by decide +kernel
theorem dX4_errorOf_45 : decode cX4_errorOf 45 = .ok (.iadd, 1) := by decide +kernel
theorem dX4_errorOf_46 : decode cX4_errorOf 46 = .ok (.iconst 1, 1) := by decide +kernel
theorem dX4_errorOf_47 : decode cX4_errorOf 47 = .ok (.iadd, 1) := by decide +kernel
theorem dX4_errorOf_48 : decode cX4_errorOf 48 = .ok (.iaload, 1) := by decide +kernel
theorem dX4_errorOf_49 : decode cX4_errorOf 49 = .ok (.istore 6, 2) := by decide +kernel
theorem dX4_errorOf_51 : decode cX4_errorOf 51 = .ok (.iload 5, 2) := by decide +kernel
theorem dX4_errorOf_53 : decode cX4_errorOf 53 = .ok (.iconst (-1), 1) := by decide +kernel
theorem dX4_errorOf_54 : decode cX4_errorOf 54 = .ok (.if_icmp .ne 17, 3) := by decide +kernel
theorem dX4_errorOf_57 : decode cX4_errorOf 57 = .ok (.aload_n 0, 1) := by decide +kernel
theorem dX4_errorOf_58 : decode cX4_errorOf 58 = .ok (.iload 6, 2) := by decide +kernel
theorem dX4_errorOf_60 : decode cX4_errorOf 60 = .ok (.iload_n 1, 1) := by decide +kernel
theorem dX4_errorOf_61 : decode cX4_errorOf 61 = .ok (.invokevirtual 88, 3) := by decide +kernel
theorem dX4_errorOf_64 : decode cX4_errorOf 64 = .ok (.ifCond .ne 52, 3) := by decide +kernel
theorem dX4_errorOf_67 : decode cX4_errorOf 67 = .ok (.ldc2_w 110, 3) := by decide +kernel
theorem dX4_errorOf_70 : decode cX4_errorOf 70 = .ok (.lreturn, 1) := by decide +kernel
theorem dX4_errorOf_71 : decode cX4_errorOf 71 = .ok (.aload_n 0, 1) := by decide +kernel
theorem dX4_errorOf_72 : decode cX4_errorOf 72 = .ok (.iload 5, 2) := by decide +kernel
theorem dX4_errorOf_74 : decode cX4_errorOf 74 = .ok (.iload 6, 2) := by decide +kernel
theorem dX4_errorOf_76 : decode cX4_errorOf 76 = .ok (.i2l, 1) := by decide +kernel
theorem dX4_errorOf_77 : decode cX4_errorOf 77 = .ok (.iconst 0, 1) := by decide +kernel
theorem dX4_errorOf_78 : decode cX4_errorOf 78 = .ok (.invokevirtual 100, 3) := by decide +kernel
theorem dX4_errorOf_81 : decode cX4_errorOf 81 = .ok (.istore 7, 2) := by decide +kernel
theorem dX4_errorOf_83 : decode cX4_errorOf 83 = .ok (.iload 7, 2) := by decide +kernel
theorem dX4_errorOf_85 : decode cX4_errorOf 85 = .ok (.ifCond .ge 7, 3) := by decide +kernel
theorem dX4_errorOf_88 : decode cX4_errorOf 88 = .ok (.ldc2_w 110, 3) := by decide +kernel
theorem dX4_errorOf_91 : decode cX4_errorOf 91 = .ok (.lreturn, 1) := by decide +kernel
theorem dX4_errorOf_92 : decode cX4_errorOf 92 = .ok (.lload_n 2, 1) := by decide +kernel
theorem dX4_errorOf_93 : decode cX4_errorOf 93 = .ok (.aload_n 0, 1) := by decide +kernel
theorem dX4_errorOf_94 : decode cX4_errorOf 94 = .ok (.getfield 50, 3) := by decide +kernel
theorem dX4_errorOf_97 : decode cX4_errorOf 97 = .ok (.lconst 0, 1) := by decide +kernel
theorem dX4_errorOf_98 : decode cX4_errorOf 98 = .ok (.lcmp, 1) := by decide +kernel
theorem dX4_errorOf_99 : decode cX4_errorOf 99 = .ok (.ifCond .ge 11, 3) := by decide +kernel
theorem dX4_errorOf_102 : decode cX4_errorOf 102 = .ok (.aload_n 0, 1) := by decide +kernel
theorem dX4_errorOf_103 : decode cX4_errorOf 103 = .ok (.getfield 50, 3) := by decide +kernel
theorem dX4_errorOf_106 : decode cX4_errorOf 106 = .ok (.lneg, 1) := by decide +kernel
theorem dX4_errorOf_107 : decode cX4_errorOf 107 = .ok (.goto 7, 3) := by decide +kernel
theorem dX4_errorOf_110 : decode cX4_errorOf 110 = .ok (.aload_n 0, 1) := by decide +kernel
theorem dX4_errorOf_111 : decode cX4_errorOf 111 = .ok (.getfield 50, 3) := by decide +kernel
theorem dX4_errorOf_114 : decode cX4_errorOf 114 = .ok (.ladd, 1) := by decide +kernel
theorem dX4_errorOf_115 : decode cX4_errorOf 115 = .ok (.lstore_n 2, 1) := by decide +kernel
theorem dX4_errorOf_116 : decode cX4_errorOf 116 = .ok (.iinc 4 1, 3) := by decide +kernel
theorem dX4_errorOf_119 : decode cX4_errorOf 119 = .ok (.goto (-110), 3) := by decide +kernel
theorem dX4_errorOf_122 : decode cX4_errorOf 122 = .ok (.lload_n 2, 1) := by decide +kernel
theorem dX4_errorOf_123 : decode cX4_errorOf 123 = .ok (.invokestatic 46, 3) := by decide +kernel
theorem dX4_errorOf_126 : decode cX4_errorOf 126 = .ok (.ifCond .eq 7, 3) := by decide +kernel
theorem dX4_errorOf_129 : decode cX4_errorOf 129 = .ok (.lload_n 2, 1) := by decide +kernel
theorem dX4_errorOf_130 : decode cX4_errorOf 130 = .ok (.goto 6, 3) := by decide +kernel
theorem dX4_errorOf_133 : decode cX4_errorOf 133 = .ok (.ldc2_w 110, 3) := by decide +kernel
theorem dX4_errorOf_136 : decode cX4_errorOf 136 = .ok (.lreturn, 1) := by decide +kernel
set_option maxRecDepth 20000 in
theorem ggX4_replayError_X4_in : GoodIn wsX4_replayError wsX4_in := goodIn_r _ [8] (by decide +kernel) (by decide +kernel)
set_option maxRecDepth 20000 in
theorem gX4_replayError_X4_in : GoodIn wsX4_replayError (va_wsS RX4 68 yX4_in wsX4_in) := goodIn_app (goodIn_of _ (by decide +kernel)) ggX4_replayError_X4_in
set_option maxRecDepth 20000 in
theorem ggX4_replayError_X4_fail : GoodIn wsX4_replayError wsX4_fail := goodIn_r _ [12, 13, 2, 57, 58, 59, 60, 61, 62, 63, 64, 65] (by decide +kernel) (by decide +kernel)
set_option maxRecDepth 20000 in
theorem gX4_replayError_X4_fail : GoodIn wsX4_replayError (wsV RX4 74 RX4 yX4_fail wsX4_fail) := goodIn_app (goodIn_of _ (by decide +kernel)) ggX4_replayError_X4_fail
set_option maxRecDepth 20000 in
theorem ggX4_replayError_X4_hasReading : GoodIn wsX4_replayError wsX4_hasReading := goodIn_r _ [17, 18, 57, 58, 59, 60, 61, 62, 63, 64, 65] (by decide +kernel) (by decide +kernel)
set_option maxRecDepth 20000 in
theorem gX4_replayError_X4_hasReading : GoodIn wsX4_replayError (wsV RX4 112 RX4 yX4_hasReading wsX4_hasReading) := goodIn_app (goodIn_of _ (by decide +kernel)) ggX4_replayError_X4_hasReading
set_option maxRecDepth 20000 in
theorem ggX4_replayError_X4_errorOf : GoodIn wsX4_replayError wsX4_errorOf := goodIn_r _ [22, 18, 23, 24, 25, 26, 27, 7, 28, 29, 30, 31, 32, 33, 34, 35, 36, 37, 38, 39, 40, 41, 42, 43, 44, 45, 46, 47, 48, 49, 50, 51, 52, 53, 54, 55, 56, 57, 58, 59, 60, 61, 62, 63, 64, 65] (by decide +kernel) (by decide +kernel)
set_option maxRecDepth 20000 in
theorem gX4_replayError_X4_errorOf : GoodIn wsX4_replayError (wsV RX4 117 RX4 yX4_errorOf wsX4_errorOf) := goodIn_app (goodIn_of _ (by decide +kernel)) ggX4_replayError_X4_errorOf
theorem dX4_replayError_0 : decode cX4_replayError 0 = .ok (.iload_n 1, 1) := by decide +kernel
theorem dX4_replayError_1 : decode cX4_replayError 1 = .ok (.iconst 0, 1) := by decide +kernel
