theorem dX4_record_58 : decode cX4_record 58 = .ok (.bipush 23, 2) := by decide +kernel
theorem dX4_record_60 : decode cX4_record 60 = .ok (.iconst 2, 1) := by decide +kernel
theorem dX4_record_61 : decode cX4_record 61 = .ok (.aload_n 0, 1) := by decide +kernel
theorem dX4_record_62 : decode cX4_record 62 = .ok (.getfield 7, 3) := by decide +kernel
theorem dX4_record_65 : decode cX4_record 65 = .ok (.bipush 22, 2) := by decide +kernel
theorem dX4_record_67 : decode cX4_record 67 = .ok (.iaload, 1) := by decide +kernel
theorem dX4_record_68 : decode cX4_record 68 = .ok (.imul, 1) := by decide +kernel
theorem dX4_record_69 : decode cX4_record 69 = .ok (.iadd, 1) := by decide +kernel
theorem dX4_record_70 : decode cX4_record 70 = .ok (.iload_n 1, 1) := by decide +kernel
theorem dX4_record_71 : decode cX4_record 71 = .ok (.iastore, 1) := by decide +kernel
theorem dX4_record_72 : decode cX4_record 72 = .ok (.aload_n 0, 1) := by decide +kernel
theorem dX4_record_73 : decode cX4_record 73 = .ok (.getfield 7, 3) := by decide +kernel
theorem dX4_record_76 : decode cX4_record 76 = .ok (.bipush 23, 2) := by decide +kernel
theorem dX4_record_78 : decode cX4_record 78 = .ok (.iconst 2, 1) := by decide +kernel
theorem dX4_record_79 : decode cX4_record 79 = .ok (.aload_n 0, 1) := by decide +kernel
theorem dX4_record_80 : decode cX4_record 80 = .ok (.getfield 7, 3) := by decide +kernel
theorem dX4_record_83 : decode cX4_record 83 = .ok (.bipush 22, 2) := by decide +kernel
theorem dX4_record_85 : decode cX4_record 85 = .ok (.iaload, 1) := by decide +kernel
theorem dX4_record_86 : decode cX4_record 86 = .ok (.imul, 1) := by decide +kernel
theorem dX4_record_87 : decode cX4_record 87 = .ok (.iadd, 1) := by decide +kernel
theorem dX4_record_88 : decode cX4_record 88 = .ok (.iconst 1, 1) := by decide +kernel
theorem dX4_record_89 : decode cX4_record 89 = .ok (.iadd, 1) := by decide +kernel
theorem dX4_record_90 : decode cX4_record 90 = .ok (.iload_n 2, 1) := by decide +kernel
theorem dX4_record_91 : decode cX4_record 91 = .ok (.iastore, 1) := by decide +kernel
theorem dX4_record_92 : decode cX4_record 92 = .ok (.aload_n 0, 1) := by decide +kernel
theorem dX4_record_93 : decode cX4_record 93 = .ok (.getfield 7, 3) := by decide +kernel
theorem dX4_record_96 : decode cX4_record 96 = .ok (.bipush 22, 2) := by decide +kernel
theorem dX4_record_98 : decode cX4_record 98 = .ok (.dup2, 1) := by decide +kernel
theorem dX4_record_99 : decode cX4_record 99 = .ok (.iaload, 1) := by decide +kernel
theorem dX4_record_100 : decode cX4_record 100 = .ok (.iconst 1, 1) := by decide +kernel
theorem dX4_record_101 : decode cX4_record 101 = .ok (.iadd, 1) := by decide +kernel
theorem dX4_record_102 : decode cX4_record 102 = .ok (.iastore, 1) := by decide +kernel
theorem dX4_record_103 : decode cX4_record 103 = .ok (.return_, 1) := by decide +kernel
set_option maxRecDepth 20000 in
theorem ggX4_predict_X4_in : GoodIn wsX4_predict wsX4_in := goodIn_r _ [9] (by decide +kernel) (by decide +kernel)
set_option maxRecDepth 20000 in
theorem gX4_predict_X4_in : GoodIn wsX4_predict (va_wsS RX4 68 yX4_in wsX4_in) := goodIn_app (goodIn_of _ (by decide +kernel)) ggX4_predict_X4_in
set_option maxRecDepth 20000 in
theorem ggX4_predict_X4_fail : GoodIn wsX4_predict wsX4_fail := goodIn_r _ [13, 14, 3, 44, 45, 46, 47, 48, 49, 50, 51, 52] (by decide +kernel) (by decide +kernel)
set_option maxRecDepth 20000 in
theorem gX4_predict_X4_fail : GoodIn wsX4_predict (wsV RX4 74 RX4 yX4_fail wsX4_fail) := goodIn_app (goodIn_of _ (by decide +kernel)) ggX4_predict_X4_fail
set_option maxRecDepth 20000 in
theorem ggX4_predict_X4_take : GoodIn wsX4_predict wsX4_take := goodIn_r _ [18, 19, 4, 44, 45, 46, 47, 48, 49, 50, 51, 52] (by decide +kernel) (by decide +kernel)
set_option maxRecDepth 20000 in
theorem gX4_predict_X4_take : GoodIn wsX4_predict (wsV RX4 85 RX4 yX4_take wsX4_take) := goodIn_app (goodIn_of _ (by decide +kernel)) ggX4_predict_X4_take
set_option maxRecDepth 20000 in
theorem ggX4_predict_X4_predicts : GoodIn wsX4_predict wsX4_predicts := goodIn_r _ [23, 19, 24, 4, 25, 26, 8, 27, 28, 29, 44, 45, 46, 47, 48, 49, 50, 51, 52] (by decide +kernel) (by decide +kernel)
set_option maxRecDepth 20000 in
theorem gX4_predict_X4_predicts : GoodIn wsX4_predict (wsV RX4 88 RX4 yX4_predicts wsX4_predicts) := goodIn_app (goodIn_of _ (by decide +kernel)) ggX4_predict_X4_predicts
set_option maxRecDepth 20000 in
theorem ggX4_predict_X4_note : GoodIn wsX4_predict wsX4_note := goodIn_r _ [33, 34, 35, 4, 44, 45, 46, 47, 48, 49, 50, 51, 52] (by decide +kernel) (by decide +kernel)
set_option maxRecDepth 20000 in
theorem gX4_predict_X4_note : GoodIn wsX4_predict (wsV RX4 78 RX4 yX4_note wsX4_note) := goodIn_app (goodIn_of _ (by decide +kernel)) ggX4_predict_X4_note
set_option maxRecDepth 20000 in
theorem ggX4_predict_X4_put : GoodIn wsX4_predict wsX4_put := goodIn_r _ [39, 4, 19, 44, 45, 46, 47, 48, 49, 50, 51, 52] (by decide +kernel) (by decide +kernel)
set_option maxRecDepth 20000 in
theorem gX4_predict_X4_put : GoodIn wsX4_predict (wsV RX4 93 RX4 yX4_put wsX4_put) := goodIn_app (goodIn_of _ (by decide +kernel)) ggX4_predict_X4_put
set_option maxRecDepth 20000 in
theorem ggX4_predict_X4_record : GoodIn wsX4_predict wsX4_record := goodIn_r _ [43, 4, 44, 45, 46, 47, 48, 49, 50, 51, 52] (by decide +kernel) (by decide +kernel)
set_option maxRecDepth 20000 in
theorem gX4_predict_X4_record : GoodIn wsX4_predict (wsV RX4 96 RX4 yX4_record wsX4_record) := goodIn_app (goodIn_of _ (by decide +kernel)) ggX4_predict_X4_record
theorem dX4_predict_0 : decode cX4_predict 0 = .ok (.iload_n 1, 1) := by decide +kernel
theorem dX4_predict_1 : decode cX4_predict 1 = .ok (.ldc 72, 2) := by decide +kernel
theorem dX4_predict_3 : decode cX4_predict 3 = .ok (.ldc 73, 2) := by decide +kernel
theorem dX4_predict_5 : decode cX4_predict 5 = .ok (.invokestatic 68, 3) := by decide +kernel
theorem dX4_predict_8 : decode cX4_predict 8 = .ok (.ifCond .ne 10, 3) := by decide +kernel
theorem dX4_predict_11 : decode cX4_predict 11 = .ok (.aload_n 0, 1) := by decide +kernel
theorem dX4_predict_12 : decode cX4_predict 12 = .ok (.ldc 26, 2) := by decide +kernel
theorem dX4_predict_14 : decode cX4_predict 14 = .ok (.invokevirtual 74, 3) := by decide +kernel
theorem dX4_predict_17 : decode cX4_predict 17 = .ok (.ireturn, 1) := by decide +kernel
theorem dX4_predict_18 : decode cX4_predict 18 = .ok (.aload_n 0, 1) := by decide +kernel
theorem dX4_predict_19 : decode cX4_predict 19 = .ok (.invokevirtual 85, 3) := by decide +kernel
theorem dX4_predict_22 : decode cX4_predict 22 = .ok (.aload_n 0, 1) := by decide +kernel
theorem dX4_predict_23 : decode cX4_predict 23 = .ok (.iload_n 1, 1) := by decide +kernel
theorem dX4_predict_24 : decode cX4_predict 24 = .ok (.aload_n 0, 1) := by decide +kernel
theorem dX4_predict_25 : decode cX4_predict 25 = .ok (.getfield 7, 3) := by decide +kernel
theorem dX4_predict_28 : decode cX4_predict 28 = .ok (.bipush 6, 2) := by decide +kernel
theorem dX4_predict_30 : decode cX4_predict 30 = .ok (.iaload, 1) := by decide +kernel
theorem dX4_predict_31 : decode cX4_predict 31 = .ok (.invokevirtual 88, 3) := by decide +kernel
theorem dX4_predict_34 : decode cX4_predict 34 = .ok (.ifCond .ne 10, 3) := by decide +kernel
theorem dX4_predict_37 : decode cX4_predict 37 = .ok (.aload_n 0, 1) := by decide +kernel
theorem dX4_predict_38 : decode cX4_predict 38 = .ok (.ldc 92, 2) := by decide +kernel
theorem dX4_predict_40 : decode cX4_predict 40 = .ok (.invokevirtual 74, 3) := by decide +kernel
theorem dX4_predict_43 : decode cX4_predict 43 = .ok (.ireturn, 1) := by decide +kernel
theorem dX4_predict_44 : decode cX4_predict 44 = .ok (.aload_n 0, 1) := by decide +kernel
theorem dX4_predict_45 : decode cX4_predict 45 = .ok (.invokevirtual 78, 3) := by decide +kernel
theorem dX4_predict_48 : decode cX4_predict 48 = .ok (.aload_n 0, 1) := by decide +kernel
theorem dX4_predict_49 : decode cX4_predict 49 = .ok (.invokevirtual 93, 3) := by decide +kernel
theorem dX4_predict_52 : decode cX4_predict 52 = .ok (.aload_n 0, 1) := by decide +kernel
theorem dX4_predict_53 : decode cX4_predict 53 = .ok (.iconst (-1), 1) := by decide +kernel
theorem dX4_predict_54 : decode cX4_predict 54 = .ok (.iload_n 1, 1) := by decide +kernel
theorem dX4_predict_55 : decode cX4_predict 55 = .ok (.invokevirtual 96, 3) := by decide +kernel
theorem dX4_predict_58 : decode cX4_predict 58 = .ok (.aload_n 0, 1) := by decide +kernel
theorem dX4_predict_59 : decode cX4_predict 59 = .ok (.getfield 7, 3) := by decide +kernel
theorem dX4_predict_62 : decode cX4_predict 62 = .ok (.iconst 0, 1) := by decide +kernel
theorem dX4_predict_63 : decode cX4_predict 63 = .ok (.iaload, 1) := by decide +kernel
theorem dX4_predict_64 : decode cX4_predict 64 = .ok (.ireturn, 1) := by decide +kernel
set_option maxRecDepth 20000 in
theorem ggX4_correct_X4_isSensor : GoodIn wsX4_correct wsX4_isSensor := goodIn_r _ [12, 13, 14, 11, 15] (by decide +kernel) (by decide +kernel)
set_option maxRecDepth 20000 in
theorem gX4_correct_X4_isSensor : GoodIn wsX4_correct (va_wsS RX4 81 yX4_isSensor wsX4_isSensor) := goodIn_app (goodIn_of _ (by decide +kernel)) ggX4_correct_X4_isSensor
set_option maxRecDepth 20000 in
theorem ggX4_correct_X4_in : GoodIn wsX4_correct wsX4_in := goodIn_r _ [15] (by decide +kernel) (by decide +kernel)
set_option maxRecDepth 20000 in
theorem gX4_correct_X4_in : GoodIn wsX4_correct (va_wsS RX4 68 yX4_in wsX4_in) := goodIn_app (goodIn_of _ (by decide +kernel)) ggX4_correct_X4_in
set_option maxRecDepth 20000 in
theorem ggX4_correct_X4_fail : GoodIn wsX4_correct wsX4_fail := goodIn_r _ [19, 20, 3, 61, 62, 63, 64, 65, 66, 67, 68, 69] (by decide +kernel) (by decide +kernel)
set_option maxRecDepth 20000 in
theorem gX4_correct_X4_fail : GoodIn wsX4_correct (wsV RX4 74 RX4 yX4_fail wsX4_fail) := goodIn_app (goodIn_of _ (by decide +kernel)) ggX4_correct_X4_fail
set_option maxRecDepth 20000 in
theorem ggX4_correct_X4_take : GoodIn wsX4_correct wsX4_take := goodIn_r _ [24, 25, 4, 61, 62, 63, 64, 65, 66, 67, 68, 69] (by decide +kernel) (by decide +kernel)
set_option maxRecDepth 20000 in
theorem gX4_correct_X4_take : GoodIn wsX4_correct (wsV RX4 85 RX4 yX4_take wsX4_take) := goodIn_app (goodIn_of _ (by decide +kernel)) ggX4_correct_X4_take
set_option maxRecDepth 20000 in
theorem ggX4_correct_X4_corrects : GoodIn wsX4_correct wsX4_corrects := goodIn_r _ [29, 4, 25, 6, 30, 7, 8, 31, 32, 11, 33, 34, 35, 36, 37, 38, 39, 40, 41, 42, 43, 44, 45, 46, 61, 62, 63, 64, 65, 66, 67, 68, 69] (by decide +kernel) (by decide +kernel)
set_option maxRecDepth 20000 in
theorem gX4_correct_X4_corrects : GoodIn wsX4_correct (wsV RX4 100 RX4 yX4_corrects wsX4_corrects) := goodIn_app (goodIn_of _ (by decide +kernel)) ggX4_correct_X4_corrects
set_option maxRecDepth 20000 in
theorem ggX4_correct_X4_note : GoodIn wsX4_correct wsX4_note := goodIn_r _ [50, 51, 52, 4, 61, 62, 63, 64, 65, 66, 67, 68, 69] (by decide +kernel) (by decide +kernel)
set_option maxRecDepth 20000 in
theorem gX4_correct_X4_note : GoodIn wsX4_correct (wsV RX4 78 RX4 yX4_note wsX4_note) := goodIn_app (goodIn_of _ (by decide +kernel)) ggX4_correct_X4_note
set_option maxRecDepth 20000 in
theorem ggX4_correct_X4_put : GoodIn wsX4_correct wsX4_put := goodIn_r _ [56, 4, 25, 61, 62, 63, 64, 65, 66, 67, 68, 69] (by decide +kernel) (by decide +kernel)
set_option maxRecDepth 20000 in
theorem gX4_correct_X4_put : GoodIn wsX4_correct (wsV RX4 93 RX4 yX4_put wsX4_put) := goodIn_app (goodIn_of _ (by decide +kernel)) ggX4_correct_X4_put
set_option maxRecDepth 20000 in
theorem ggX4_correct_X4_record : GoodIn wsX4_correct wsX4_record := goodIn_r _ [60, 4, 61, 62, 63, 64, 65, 66, 67, 68, 69] (by decide +kernel) (by decide +kernel)
set_option maxRecDepth 20000 in
theorem gX4_correct_X4_record : GoodIn wsX4_correct (wsV RX4 96 RX4 yX4_record wsX4_record) := goodIn_app (goodIn_of _ (by decide +kernel)) ggX4_correct_X4_record
theorem dX4_correct_0 : decode cX4_correct 0 = .ok (.iload_n 1, 1) := by decide +kernel
theorem dX4_correct_1 : decode cX4_correct 1 = .ok (.invokestatic 81, 3) := by decide +kernel
theorem dX4_correct_4 : decode cX4_correct 4 = .ok (.ifCond .eq 14, 3) := by decide +kernel
theorem dX4_correct_7 : decode cX4_correct 7 = .ok (.iload_n 2, 1) := by decide +kernel
theorem dX4_correct_8 : decode cX4_correct 8 = .ok (.ldc 66, 2) := by decide +kernel
theorem dX4_correct_10 : decode cX4_correct 10 = .ok (.ldc 67, 2) := by decide +kernel
theorem dX4_correct_12 : decode cX4_correct 12 = .ok (.invokestatic 68, 3) := by decide +kernel
theorem dX4_correct_15 : decode cX4_correct 15 = .ok (.ifCond .ne 10, 3) := by decide +kernel
theorem dX4_correct_18 : decode cX4_correct 18 = .ok (.aload_n 0, 1) := by decide +kernel
theorem dX4_correct_19 : decode cX4_correct 19 = .ok (.ldc 26, 2) := by decide +kernel
theorem dX4_correct_21 : decode cX4_correct 21 = .ok (.invokevirtual 74, 3) := by decide +kernel
theorem dX4_correct_24 : decode cX4_correct 24 = .ok (.ireturn, 1) := by decide +kernel
theorem dX4_correct_25 : decode cX4_correct 25 = .ok (.aload_n 0, 1) := by decide +kernel
theorem dX4_correct_26 : decode cX4_correct 26 = .ok (.invokevirtual 85, 3) := by decide +kernel
theorem dX4_correct_29 : decode cX4_correct 29 = .ok (.aload_n 0, 1) := by decide +kernel
theorem dX4_correct_30 : decode cX4_correct 30 = .ok (.iload_n 1, 1) := by decide +kernel
theorem dX4_correct_31 : decode cX4_correct 31 = .ok (.iload_n 2, 1) := by decide +kernel
theorem dX4_correct_32 : decode cX4_correct 32 = .ok (.i2l, 1) := by decide +kernel
theorem dX4_correct_33 : decode cX4_correct 33 = .ok (.aload_n 0, 1) := by decide +kernel
theorem dX4_correct_34 : decode cX4_correct 34 = .ok (.getfield 7, 3) := by decide +kernel
theorem dX4_correct_37 : decode cX4_correct 37 = .ok (.bipush 7, 2) := by decide +kernel
theorem dX4_correct_39 : decode cX4_correct 39 = .ok (.iaload, 1) := by decide +kernel
theorem dX4_correct_40 : decode cX4_correct 40 = .ok (.invokevirtual 100, 3) := by decide +kernel
theorem dX4_correct_43 : decode cX4_correct 43 = .ok (.istore_n 3, 1) := by decide +kernel
theorem dX4_correct_44 : decode cX4_correct 44 = .ok (.iload_n 3, 1) := by decide +kernel
theorem dX4_correct_45 : decode cX4_correct 45 = .ok (.ifCond .ge 10, 3) := by decide +kernel
theorem dX4_correct_48 : decode cX4_correct 48 = .ok (.aload_n 0, 1) := by decide +kernel
theorem dX4_correct_49 : decode cX4_correct 49 = .ok (.ldc 92, 2) := by decide +kernel
theorem dX4_correct_51 : decode cX4_correct 51 = .ok (.invokevirtual 74, 3) := by decide +kernel
theorem dX4_correct_54 : decode cX4_correct 54 = .ok (.ireturn, 1) := by decide +kernel
theorem dX4_correct_55 : decode cX4_correct 55 = .ok (.aload_n 0, 1) := by decide +kernel
theorem dX4_correct_56 : decode cX4_correct 56 = .ok (.invokevirtual 78, 3) := by decide +kernel
theorem dX4_correct_59 : decode cX4_correct 59 = .ok (.aload_n 0, 1) := by decide +kernel
theorem dX4_correct_60 : decode cX4_correct 60 = .ok (.invokevirtual 93, 3) := by decide +kernel
theorem dX4_correct_63 : decode cX4_correct 63 = .ok (.aload_n 0, 1) := by decide +kernel
theorem dX4_correct_64 : decode cX4_correct 64 = .ok (.iload_n 1, 1) := by decide +kernel
theorem dX4_correct_65 : decode cX4_correct 65 = .ok (.iload_n 2, 1) := by decide +kernel
theorem dX4_correct_66 : decode cX4_correct 66 = .ok (.invokevirtual 96, 3) := by decide +kernel
theorem dX4_correct_69 : decode cX4_correct 69 = .ok (.aload_n 0, 1) := by decide +kernel
theorem dX4_correct_70 : decode cX4_correct 70 = .ok (.getfield 7, 3) := by decide +kernel
theorem dX4_correct_73 : decode cX4_correct 73 = .ok (.bipush 16, 2) := by decide +kernel
theorem dX4_correct_75 : decode cX4_correct 75 = .ok (.aload_n 0, 1) := by decide +kernel
theorem dX4_correct_76 : decode cX4_correct 76 = .ok (.getfield 50, 3) := by decide +kernel
theorem dX4_correct_79 : decode cX4_correct 79 = .ok (.l2i, 1) := by decide +kernel
theorem dX4_correct_80 : decode cX4_correct 80 = .ok (.iastore, 1) := by decide +kernel
theorem dX4_correct_81 : decode cX4_correct 81 = .ok (.iload_n 3, 1) := by decide +kernel
theorem dX4_correct_82 : decode cX4_correct 82 = .ok (.iconst 1, 1) := by decide +kernel
theorem dX4_correct_83 : decode cX4_correct 83 = .ok (.if_icmp .ne 41, 3) := by decide +kernel
theorem dX4_correct_86 : decode cX4_correct 86 = .ok (.aload_n 0, 1) := by decide +kernel
theorem dX4_correct_87 : decode cX4_correct 87 = .ok (.getfield 7, 3) := by decide +kernel
theorem dX4_correct_90 : decode cX4_correct 90 = .ok (.bipush 17, 2) := by decide +kernel
theorem dX4_correct_92 : decode cX4_correct 92 = .ok (.aload_n 0, 1) := by decide +kernel
theorem dX4_correct_93 : decode cX4_correct 93 = .ok (.getfield 60, 3) := by decide +kernel
theorem dX4_correct_96 : decode cX4_correct 96 = .ok (.l2i, 1) := by decide +kernel
theorem dX4_correct_97 : decode cX4_correct 97 = .ok (.iastore, 1) := by decide +kernel
theorem dX4_correct_98 : decode cX4_correct 98 = .ok (.aload_n 0, 1) := by decide +kernel
theorem dX4_correct_99 : decode cX4_correct 99 = .ok (.getfield 7, 3) := by decide +kernel
theorem dX4_correct_102 : decode cX4_correct 102 = .ok (.bipush 18, 2) := by decide +kernel
theorem dX4_correct_104 : decode cX4_correct 104 = .ok (.aload_n 0, 1) := by decide +kernel
theorem dX4_correct_105 : decode cX4_correct 105 = .ok (.getfield 63, 3) := by decide +kernel
theorem dX4_correct_108 : decode cX4_correct 108 = .ok (.l2i, 1) := by decide +kernel
theorem dX4_correct_109 : decode cX4_correct 109 = .ok (.iastore, 1) := by decide +kernel
theorem dX4_correct_110 : decode cX4_correct 110 = .ok (.aload_n 0, 1) := by decide +kernel
theorem dX4_correct_111 : decode cX4_correct 111 = .ok (.getfield 7, 3) := by decide +kernel
theorem dX4_correct_114 : decode cX4_correct 114 = .ok (.bipush 19, 2) := by decide +kernel
theorem dX4_correct_116 : decode cX4_correct 116 = .ok (.dup2, 1) := by decide +kernel
theorem dX4_correct_117 : decode cX4_correct 117 = .ok (.iaload, 1) := by decide +kernel
theorem dX4_correct_118 : decode cX4_correct 118 = .ok (.iconst 1, 1) := by decide +kernel
theorem dX4_correct_119 : decode cX4_correct 119 = .ok (.iadd, 1) := by decide +kernel
theorem dX4_correct_120 : decode cX4_correct 120 = .ok (.iastore, 1) := by decide +kernel
theorem dX4_correct_121 : decode cX4_correct 121 = .ok (.goto 14, 3) := by decide +kernel
theorem dX4_correct_124 : decode cX4_correct 124 = .ok (.aload_n 0, 1) := by decide +kernel
theorem dX4_correct_125 : decode cX4_correct 125 = .ok (.getfield 7, 3) := by decide +kernel
theorem dX4_correct_128 : decode cX4_correct 128 = .ok (.bipush 20, 2) := by decide +kernel
theorem dX4_correct_130 : decode cX4_correct 130 = .ok (.dup2, 1) := by decide +kernel
theorem dX4_correct_131 : decode cX4_correct 131 = .ok (.iaload, 1) := by decide +kernel
theorem dX4_correct_132 : decode cX4_correct 132 = .ok (.iconst 1, 1) := by decide +kernel
theorem dX4_correct_133 : decode cX4_correct 133 = .ok (.iadd, 1) := by decide +kernel
theorem dX4_correct_134 : decode cX4_correct 134 = .ok (.iastore, 1) := by decide +kernel
theorem dX4_correct_135 : decode cX4_correct 135 = .ok (.iload_n 3, 1) := by decide +kernel
theorem dX4_correct_136 : decode cX4_correct 136 = .ok (.ireturn, 1) := by decide +kernel
set_option maxRecDepth 20000 in
theorem ggX4_miss_X4_isSensor : GoodIn wsX4_miss wsX4_isSensor := goodIn_r _ [6, 7, 8, 5, 9] (by decide +kernel) (by decide +kernel)
set_option maxRecDepth 20000 in
theorem gX4_miss_X4_isSensor : GoodIn wsX4_miss (va_wsS RX4 81 yX4_isSensor wsX4_isSensor) := goodIn_app (goodIn_of _ (by decide +kernel)) ggX4_miss_X4_isSensor
set_option maxRecDepth 20000 in
theorem ggX4_miss_X4_fail : GoodIn wsX4_miss wsX4_fail := goodIn_r _ [13, 14, 1, 21, 22, 23, 24, 25, 26, 27, 28, 29] (by decide +kernel) (by decide +kernel)
set_option maxRecDepth 20000 in
theorem gX4_miss_X4_fail : GoodIn wsX4_miss (wsV RX4 74 RX4 yX4_fail wsX4_fail) := goodIn_app (goodIn_of _ (by decide +kernel)) ggX4_miss_X4_fail
set_option maxRecDepth 20000 in
theorem ggX4_miss_X4_note : GoodIn wsX4_miss wsX4_note := goodIn_r _ [18, 19, 20, 2, 21, 22, 23, 24, 25, 26, 27, 28, 29] (by decide +kernel) (by decide +kernel)
set_option maxRecDepth 20000 in
theorem gX4_miss_X4_note : GoodIn wsX4_miss (wsV RX4 78 RX4 yX4_note wsX4_note) := goodIn_app (goodIn_of _ (by decide +kernel)) ggX4_miss_X4_note
theorem dX4_miss_0 : decode cX4_miss 0 = .ok (.iload_n 1, 1) := by decide +kernel
theorem dX4_miss_1 : decode cX4_miss 1 = .ok (.invokestatic 81, 3) := by decide +kernel
theorem dX4_miss_4 : decode cX4_miss 4 = .ok (.ifCond .ne 10, 3) := by decide +kernel
theorem dX4_miss_7 : decode cX4_miss 7 = .ok (.aload_n 0, 1) := by decide +kernel
theorem dX4_miss_8 : decode cX4_miss 8 = .ok (.ldc 26, 2) := by decide +kernel
theorem dX4_miss_10 : decode cX4_miss 10 = .ok (.invokevirtual 74, 3) := by decide +kernel
theorem dX4_miss_13 : decode cX4_miss 13 = .ok (.ireturn, 1) := by decide +kernel
theorem dX4_miss_14 : decode cX4_miss 14 = .ok (.aload_n 0, 1) := by decide +kernel
theorem dX4_miss_15 : decode cX4_miss 15 = .ok (.invokevirtual 78, 3) := by decide +kernel
theorem dX4_miss_18 : decode cX4_miss 18 = .ok (.aload_n 0, 1) := by decide +kernel
theorem dX4_miss_19 : decode cX4_miss 19 = .ok (.getfield 7, 3) := by decide +kernel
theorem dX4_miss_22 : decode cX4_miss 22 = .ok (.bipush 21, 2) := by decide +kernel
theorem dX4_miss_24 : decode cX4_miss 24 = .ok (.dup2, 1) := by decide +kernel
theorem dX4_miss_25 : decode cX4_miss 25 = .ok (.iaload, 1) := by decide +kernel
theorem dX4_miss_26 : decode cX4_miss 26 = .ok (.iconst 1, 1) := by decide +kernel
theorem dX4_miss_27 : decode cX4_miss 27 = .ok (.iadd, 1) := by decide +kernel
theorem dX4_miss_28 : decode cX4_miss 28 = .ok (.iastore, 1) := by decide +kernel
theorem dX4_miss_29 : decode cX4_miss 29 = .ok (.aload_n 0, 1) := by decide +kernel
theorem dX4_miss_30 : decode cX4_miss 30 = .ok (.getfield 7, 3) := by decide +kernel
theorem dX4_miss_33 : decode cX4_miss 33 = .ok (.bipush 21, 2) := by decide +kernel
theorem dX4_miss_35 : decode cX4_miss 35 = .ok (.iaload, 1) := by decide +kernel
theorem dX4_miss_36 : decode cX4_miss 36 = .ok (.ireturn, 1) := by decide +kernel
theorem dX4_level_0 : decode cX4_level 0 = .ok (.aload_n 0, 1) := by decide +kernel
theorem dX4_level_1 : decode cX4_level 1 = .ok (.getfield 7, 3) := by decide +kernel
theorem dX4_level_4 : decode cX4_level 4 = .ok (.iconst 0, 1) := by decide +kernel
theorem dX4_level_5 : decode cX4_level 5 = .ok (.iaload, 1) := by decide +kernel
theorem dX4_level_6 : decode cX4_level 6 = .ok (.ireturn, 1) := by decide +kernel
theorem dX4_flow_0 : decode cX4_flow 0 = .ok (.aload_n 0, 1) := by decide +kernel
theorem dX4_flow_1 : decode cX4_flow 1 = .ok (.getfield 7, 3) := by decide +kernel
theorem dX4_flow_4 : decode cX4_flow 4 = .ok (.iconst 1, 1) := by decide +kernel
theorem dX4_flow_5 : decode cX4_flow 5 = .ok (.iaload, 1) := by decide +kernel
theorem dX4_flow_6 : decode cX4_flow 6 = .ok (.ireturn, 1) := by decide +kernel
theorem dX4_levelVariance_0 : decode cX4_levelVariance 0 = .ok (.aload_n 0, 1) := by decide +kernel
theorem dX4_levelVariance_1 : decode cX4_levelVariance 1 = .ok (.getfield 7, 3) := by decide +kernel
theorem dX4_levelVariance_4 : decode cX4_levelVariance 4 = .ok (.iconst 2, 1) := by decide +kernel
theorem dX4_levelVariance_5 : decode cX4_levelVariance 5 = .ok (.iaload, 1) := by decide +kernel
theorem dX4_levelVariance_6 : decode cX4_levelVariance 6 = .ok (.ireturn, 1) := by decide +kernel
theorem dX4_covariance_0 : decode cX4_covariance 0 = .ok (.aload_n 0, 1) := by decide +kernel
theorem dX4_covariance_1 : decode cX4_covariance 1 = .ok (.getfield 7, 3) := by decide +kernel
theorem dX4_covariance_4 : decode cX4_covariance 4 = .ok (.iconst 3, 1) := by decide +kernel
theorem dX4_covariance_5 : decode cX4_covariance 5 = .ok (.iaload, 1) := by decide +kernel
theorem dX4_covariance_6 : decode cX4_covariance 6 = .ok (.ireturn, 1) := by decide +kernel
theorem dX4_flowVariance_0 : decode cX4_flowVariance 0 = .ok (.aload_n 0, 1) := by decide +kernel
theorem dX4_flowVariance_1 : decode cX4_flowVariance 1 = .ok (.getfield 7, 3) := by decide +kernel
theorem dX4_flowVariance_4 : decode cX4_flowVariance 4 = .ok (.iconst 4, 1) := by decide +kernel
theorem dX4_flowVariance_5 : decode cX4_flowVariance 5 = .ok (.iaload, 1) := by decide +kernel
theorem dX4_flowVariance_6 : decode cX4_flowVariance 6 = .ok (.ireturn, 1) := by decide +kernel
theorem dX4_innovation_0 : decode cX4_innovation 0 = .ok (.aload_n 0, 1) := by decide +kernel
theorem dX4_innovation_1 : decode cX4_innovation 1 = .ok (.getfield 7, 3) := by decide +kernel
theorem dX4_innovation_4 : decode cX4_innovation 4 = .ok (.bipush 16, 2) := by decide +kernel
theorem dX4_innovation_6 : decode cX4_innovation 6 = .ok (.iaload, 1) := by decide +kernel
theorem dX4_innovation_7 : decode cX4_innovation 7 = .ok (.ireturn, 1) := by decide +kernel
theorem dX4_levelGain_0 : decode cX4_levelGain 0 = .ok (.aload_n 0, 1) := by decide +kernel
theorem dX4_levelGain_1 : decode cX4_levelGain 1 = .ok (.getfield 7, 3) := by decide +kernel
theorem dX4_levelGain_4 : decode cX4_levelGain 4 = .ok (.bipush 17, 2) := by decide +kernel
theorem dX4_levelGain_6 : decode cX4_levelGain 6 = .ok (.iaload, 1) := by decide +kernel
theorem dX4_levelGain_7 : decode cX4_levelGain 7 = .ok (.ireturn, 1) := by decide +kernel
theorem dX4_flowGain_0 : decode cX4_flowGain 0 = .ok (.aload_n 0, 1) := by decide +kernel
theorem dX4_flowGain_1 : decode cX4_flowGain 1 = .ok (.getfield 7, 3) := by decide +kernel
theorem dX4_flowGain_4 : decode cX4_flowGain 4 = .ok (.bipush 18, 2) := by decide +kernel
theorem dX4_flowGain_6 : decode cX4_flowGain 6 = .ok (.iaload, 1) := by decide +kernel
theorem dX4_flowGain_7 : decode cX4_flowGain 7 = .ok (.ireturn, 1) := by decide +kernel
theorem dX4_accepted_0 : decode cX4_accepted 0 = .ok (.aload_n 0, 1) := by decide +kernel
theorem dX4_accepted_1 : decode cX4_accepted 1 = .ok (.getfield 7, 3) := by decide +kernel
theorem dX4_accepted_4 : decode cX4_accepted 4 = .ok (.bipush 19, 2) := by decide +kernel
theorem dX4_accepted_6 : decode cX4_accepted 6 = .ok (.iaload, 1) := by decide +kernel
theorem dX4_accepted_7 : decode cX4_accepted 7 = .ok (.ireturn, 1) := by decide +kernel
theorem dX4_rejected_0 : decode cX4_rejected 0 = .ok (.aload_n 0, 1) := by decide +kernel
theorem dX4_rejected_1 : decode cX4_rejected 1 = .ok (.getfield 7, 3) := by decide +kernel
theorem dX4_rejected_4 : decode cX4_rejected 4 = .ok (.bipush 20, 2) := by decide +kernel
theorem dX4_rejected_6 : decode cX4_rejected 6 = .ok (.iaload, 1) := by decide +kernel
theorem dX4_rejected_7 : decode cX4_rejected 7 = .ok (.ireturn, 1) := by decide +kernel
theorem dX4_missed_0 : decode cX4_missed 0 = .ok (.aload_n 0, 1) := by decide +kernel
theorem dX4_missed_1 : decode cX4_missed 1 = .ok (.getfield 7, 3) := by decide +kernel
theorem dX4_missed_4 : decode cX4_missed 4 = .ok (.bipush 21, 2) := by decide +kernel
theorem dX4_missed_6 : decode cX4_missed 6 = .ok (.iaload, 1) := by decide +kernel
theorem dX4_missed_7 : decode cX4_missed 7 = .ok (.ireturn, 1) := by decide +kernel
theorem dX4_historyLength_0 : decode cX4_historyLength 0 = .ok (.aload_n 0, 1) := by decide +kernel
theorem dX4_historyLength_1 : decode cX4_historyLength 1 = .ok (.getfield 7, 3) := by decide +kernel
theorem dX4_historyLength_4 : decode cX4_historyLength 4 = .ok (.bipush 22, 2) := by decide +kernel
theorem dX4_historyLength_6 : decode cX4_historyLength 6 = .ok (.iaload, 1) := by decide +kernel
theorem dX4_historyLength_7 : decode cX4_historyLength 7 = .ok (.ireturn, 1) := by decide +kernel
set_option maxRecDepth 20000 in
theorem ggX4_goesOn_X4_take : GoodIn wsX4_goesOn wsX4_take := goodIn_r _ [6, 7, 1, 18, 19, 20, 21, 22, 23, 24, 25, 26] (by decide +kernel) (by decide +kernel)
set_option maxRecDepth 20000 in
theorem gX4_goesOn_X4_take : GoodIn wsX4_goesOn (wsV RX4 85 RX4 yX4_take wsX4_take) := goodIn_app (goodIn_of _ (by decide +kernel)) ggX4_goesOn_X4_take
set_option maxRecDepth 20000 in
theorem ggX4_goesOn_X4_predicts : GoodIn wsX4_goesOn wsX4_predicts := goodIn_r _ [11, 7, 12, 1, 13, 14, 5, 15, 16, 17, 18, 19, 20, 21, 22, 23, 24, 25, 26] (by decide +kernel) (by decide +kernel)
set_option maxRecDepth 20000 in
theorem gX4_goesOn_X4_predicts : GoodIn wsX4_goesOn (wsV RX4 88 RX4 yX4_predicts wsX4_predicts) := goodIn_app (goodIn_of _ (by decide +kernel)) ggX4_goesOn_X4_predicts
theorem dX4_goesOn_0 : decode cX4_goesOn 0 = .ok (.aload_n 0, 1) := by decide +kernel
theorem dX4_goesOn_1 : decode cX4_goesOn 1 = .ok (.invokevirtual 85, 3) := by decide +kernel
theorem dX4_goesOn_4 : decode cX4_goesOn 4 = .ok (.iconst 1, 1) := by decide +kernel
theorem dX4_goesOn_5 : decode cX4_goesOn 5 = .ok (.istore_n 2, 1) := by decide +kernel
theorem dX4_goesOn_6 : decode cX4_goesOn 6 = .ok (.iconst 0, 1) := by decide +kernel
theorem dX4_goesOn_7 : decode cX4_goesOn 7 = .ok (.istore_n 3, 1) := by decide +kernel
theorem dX4_goesOn_8 : decode cX4_goesOn 8 = .ok (.iload_n 3, 1) := by decide +kernel
theorem dX4_goesOn_9 : decode cX4_goesOn 9 = .ok (.iload_n 1, 1) := by decide +kernel
theorem dX4_goesOn_10 : decode cX4_goesOn 10 = .ok (.if_icmp .ge 26, 3) := by decide +kernel
theorem dX4_goesOn_13 : decode cX4_goesOn 13 = .ok (.iload_n 2, 1) := by decide +kernel
theorem dX4_goesOn_14 : decode cX4_goesOn 14 = .ok (.ifCond .eq 22, 3) := by decide +kernel
theorem dX4_goesOn_17 : decode cX4_goesOn 17 = .ok (.aload_n 0, 1) := by decide +kernel
theorem dX4_goesOn_18 : decode cX4_goesOn 18 = .ok (.iconst 0, 1) := by decide +kernel
theorem dX4_goesOn_19 : decode cX4_goesOn 19 = .ok (.aload_n 0, 1) := by decide +kernel
theorem dX4_goesOn_20 : decode cX4_goesOn 20 = .ok (.getfield 7, 3) := by decide +kernel
theorem dX4_goesOn_23 : decode cX4_goesOn 23 = .ok (.bipush 6, 2) := by decide +kernel
theorem dX4_goesOn_25 : decode cX4_goesOn 25 = .ok (.iaload, 1) := by decide +kernel
theorem dX4_goesOn_26 : decode cX4_goesOn 26 = .ok (.invokevirtual 88, 3) := by decide +kernel
theorem dX4_goesOn_29 : decode cX4_goesOn 29 = .ok (.istore_n 2, 1) := by decide +kernel
theorem dX4_goesOn_30 : decode cX4_goesOn 30 = .ok (.iinc 3 1, 3) := by decide +kernel
theorem dX4_goesOn_33 : decode cX4_goesOn 33 = .ok (.goto (-25), 3) := by decide +kernel
theorem dX4_goesOn_36 : decode cX4_goesOn 36 = .ok (.iload_n 2, 1) := by decide +kernel
theorem dX4_goesOn_37 : decode cX4_goesOn 37 = .ok (.ireturn, 1) := by decide +kernel
set_option maxRecDepth 20000 in
theorem ggX4_forecast_X4_in : GoodIn wsX4_forecast wsX4_in := goodIn_r _ [7] (by decide +kernel) (by decide +kernel)
set_option maxRecDepth 20000 in
theorem gX4_forecast_X4_in : GoodIn wsX4_forecast (va_wsS RX4 68 yX4_in wsX4_in) := goodIn_app (goodIn_of _ (by decide +kernel)) ggX4_forecast_X4_in
set_option maxRecDepth 20000 in
theorem ggX4_forecast_X4_fail : GoodIn wsX4_forecast wsX4_fail := goodIn_r _ [11, 12, 1, 32, 33, 34, 35, 36, 37, 38, 39, 40] (by decide +kernel) (by decide +kernel)
set_option maxRecDepth 20000 in
theorem gX4_forecast_X4_fail : GoodIn wsX4_forecast (wsV RX4 74 RX4 yX4_fail wsX4_fail) := goodIn_app (goodIn_of _ (by decide +kernel)) ggX4_forecast_X4_fail
set_option maxRecDepth 20000 in
theorem ggX4_forecast_X4_goesOn : GoodIn wsX4_forecast wsX4_goesOn := goodIn_r _ [16, 17, 18, 19, 20, 6, 21, 2, 22, 23, 24, 25, 26, 27, 28, 29, 30, 31, 32, 33, 34, 35, 36, 37, 38, 39, 40] (by decide +kernel) (by decide +kernel)
set_option maxRecDepth 20000 in
theorem gX4_forecast_X4_goesOn : GoodIn wsX4_forecast (wsV RX4 104 RX4 yX4_goesOn wsX4_goesOn) := goodIn_app (goodIn_of _ (by decide +kernel)) ggX4_forecast_X4_goesOn
theorem dX4_forecast_0 : decode cX4_forecast 0 = .ok (.iload_n 1, 1) := by decide +kernel
theorem dX4_forecast_1 : decode cX4_forecast 1 = .ok (.iconst 0, 1) := by decide +kernel
theorem dX4_forecast_2 : decode cX4_forecast 2 = .ok (.bipush 100, 2) := by decide +kernel
theorem dX4_forecast_4 : decode cX4_forecast 4 = .ok (.invokestatic 68, 3) := by decide +kernel
theorem dX4_forecast_7 : decode cX4_forecast 7 = .ok (.ifCond .ne 10, 3) := by decide +kernel
theorem dX4_forecast_10 : decode cX4_forecast 10 = .ok (.aload_n 0, 1) := by decide +kernel
theorem dX4_forecast_11 : decode cX4_forecast 11 = .ok (.ldc 26, 2) := by decide +kernel
theorem dX4_forecast_13 : decode cX4_forecast 13 = .ok (.invokevirtual 74, 3) := by decide +kernel
theorem dX4_forecast_16 : decode cX4_forecast 16 = .ok (.ireturn, 1) := by decide +kernel
theorem dX4_forecast_17 : decode cX4_forecast 17 = .ok (.aload_n 0, 1) := by decide +kernel
theorem dX4_forecast_18 : decode cX4_forecast 18 = .ok (.iload_n 1, 1) := by decide +kernel
theorem dX4_forecast_19 : decode cX4_forecast 19 = .ok (.invokevirtual 104, 3) := by decide +kernel
theorem dX4_forecast_22 : decode cX4_forecast 22 = .ok (.ifCond .eq 13, 3) := by decide +kernel
theorem dX4_forecast_25 : decode cX4_forecast 25 = .ok (.aload_n 0, 1) := by decide +kernel
theorem dX4_forecast_26 : decode cX4_forecast 26 = .ok (.getfield 19, 3) := by decide +kernel
theorem dX4_forecast_29 : decode cX4_forecast 29 = .ok (.iconst 0, 1) := by decide +kernel
theorem dX4_forecast_30 : decode cX4_forecast 30 = .ok (.laload, 1) := by decide +kernel
theorem dX4_forecast_31 : decode cX4_forecast 31 = .ok (.l2i, 1) := by decide +kernel
theorem dX4_forecast_32 : decode cX4_forecast 32 = .ok (.goto 9, 3) := by decide +kernel
theorem dX4_forecast_35 : decode cX4_forecast 35 = .ok (.aload_n 0, 1) := by decide +kernel
theorem dX4_forecast_36 : decode cX4_forecast 36 = .ok (.ldc 92, 2) := by decide +kernel
theorem dX4_forecast_38 : decode cX4_forecast 38 = .ok (.invokevirtual 74, 3) := by decide +kernel
theorem dX4_forecast_41 : decode cX4_forecast 41 = .ok (.ireturn, 1) := by decide +kernel
set_option maxRecDepth 20000 in
theorem ggX4_forecastVariance_X4_in : GoodIn wsX4_forecastVariance wsX4_in := goodIn_r _ [7] (by decide +kernel) (by decide +kernel)
set_option maxRecDepth 20000 in
theorem gX4_forecastVariance_X4_in : GoodIn wsX4_forecastVariance (va_wsS RX4 68 yX4_in wsX4_in) := goodIn_app (goodIn_of _ (by decide +kernel)) ggX4_forecastVariance_X4_in
set_option maxRecDepth 20000 in
theorem ggX4_forecastVariance_X4_fail : GoodIn wsX4_forecastVariance wsX4_fail := goodIn_r _ [11, 12, 1, 32, 33, 34, 35, 36, 37, 38, 39, 40] (by decide +kernel) (by decide +kernel)
set_option maxRecDepth 20000 in
theorem gX4_forecastVariance_X4_fail : GoodIn wsX4_forecastVariance (wsV RX4 74 RX4 yX4_fail wsX4_fail) := goodIn_app (goodIn_of _ (by decide +kernel)) ggX4_forecastVariance_X4_fail
set_option maxRecDepth 20000 in
theorem ggX4_forecastVariance_X4_goesOn : GoodIn wsX4_forecastVariance wsX4_goesOn := goodIn_r _ [16, 17, 18, 19, 20, 6, 21, 2, 22, 23, 24, 25, 26, 27, 28, 29, 30, 31, 32, 33, 34, 35, 36, 37, 38, 39, 40] (by decide +kernel) (by decide +kernel)
set_option maxRecDepth 20000 in
theorem gX4_forecastVariance_X4_goesOn : GoodIn wsX4_forecastVariance (wsV RX4 104 RX4 yX4_goesOn wsX4_goesOn) := goodIn_app (goodIn_of _ (by decide +kernel)) ggX4_forecastVariance_X4_goesOn
theorem dX4_forecastVariance_0 : decode cX4_forecastVariance 0 = .ok (.iload_n 1, 1) := by decide +kernel
theorem dX4_forecastVariance_1 : decode cX4_forecastVariance 1 = .ok (.iconst 0, 1) := by decide +kernel
theorem dX4_forecastVariance_2 : decode cX4_forecastVariance 2 = .ok (.bipush 100, 2) := by decide +kernel
theorem dX4_forecastVariance_4 : decode cX4_forecastVariance 4 = .ok (.invokestatic 68, 3) := by decide +kernel
theorem dX4_forecastVariance_7 : decode cX4_forecastVariance 7 = .ok (.ifCond .ne 10, 3) := by decide +kernel
theorem dX4_forecastVariance_10 : decode cX4_forecastVariance 10 = .ok (.aload_n 0, 1) := by decide +kernel
theorem dX4_forecastVariance_11 : decode cX4_forecastVariance 11 = .ok (.ldc 26, 2) := by decide +kernel
theorem dX4_forecastVariance_13 : decode cX4_forecastVariance 13 = .ok (.invokevirtual 74, 3) := by decide +kernel
theorem dX4_forecastVariance_16 : decode cX4_forecastVariance 16 = .ok (.ireturn, 1) := by decide +kernel
theorem dX4_forecastVariance_17 : decode cX4_forecastVariance 17 = .ok (.aload_n 0, 1) := by decide +kernel
theorem dX4_forecastVariance_18 : decode cX4_forecastVariance 18 = .ok (.iload_n 1, 1) := by decide +kernel
theorem dX4_forecastVariance_19 : decode cX4_forecastVariance 19 = .ok (.invokevirtual 104, 3) := by decide +kernel
theorem dX4_forecastVariance_22 : decode cX4_forecastVariance 22 = .ok (.ifCond .eq 13, 3) := by decide +kernel
theorem dX4_forecastVariance_25 : decode cX4_forecastVariance 25 = .ok (.aload_n 0, 1) := by decide +kernel
theorem dX4_forecastVariance_26 : decode cX4_forecastVariance 26 = .ok (.getfield 19, 3) := by decide +kernel
theorem dX4_forecastVariance_29 : decode cX4_forecastVariance 29 = .ok (.iconst 2, 1) := by decide +kernel
theorem dX4_forecastVariance_30 : decode cX4_forecastVariance 30 = .ok (.laload, 1) := by decide +kernel
theorem dX4_forecastVariance_31 : decode cX4_forecastVariance 31 = .ok (.l2i, 1) := by decide +kernel
theorem dX4_forecastVariance_32 : decode cX4_forecastVariance 32 = .ok (.goto 9, 3) := by decide +kernel
theorem dX4_forecastVariance_35 : decode cX4_forecastVariance 35 = .ok (.aload_n 0, 1) := by decide +kernel
