theorem dX3_correct_101 : decode cX3_correct 101 = .ok (.getfield 31, 3) := by decide +kernel
theorem dX3_correct_104 : decode cX3_correct 104 = .ok (.invokevirtual 98, 3) := by decide +kernel
theorem dX3_correct_107 : decode cX3_correct 107 = .ok (.aload_n 0, 1) := by decide +kernel
theorem dX3_correct_108 : decode cX3_correct 108 = .ok (.getfield 10, 3) := by decide +kernel
theorem dX3_correct_111 : decode cX3_correct 111 = .ok (.getfield 51, 3) := by decide +kernel
theorem dX3_correct_114 : decode cX3_correct 114 = .ok (.iload_n 1, 1) := by decide +kernel
theorem dX3_correct_115 : decode cX3_correct 115 = .ok (.iload_n 2, 1) := by decide +kernel
theorem dX3_correct_116 : decode cX3_correct 116 = .ok (.invokevirtual 107, 3) := by decide +kernel
theorem dX3_correct_119 : decode cX3_correct 119 = .ok (.iload_n 3, 1) := by decide +kernel
theorem dX3_correct_120 : decode cX3_correct 120 = .ok (.iconst 1, 1) := by decide +kernel
theorem dX3_correct_121 : decode cX3_correct 121 = .ok (.if_icmp .ne 19, 3) := by decide +kernel
theorem dX3_correct_124 : decode cX3_correct 124 = .ok (.aload_n 0, 1) := by decide +kernel
theorem dX3_correct_125 : decode cX3_correct 125 = .ok (.getfield 10, 3) := by decide +kernel
theorem dX3_correct_128 : decode cX3_correct 128 = .ok (.dup, 1) := by decide +kernel
theorem dX3_correct_129 : decode cX3_correct 129 = .ok (.getfield 67, 3) := by decide +kernel
theorem dX3_correct_132 : decode cX3_correct 132 = .ok (.iconst 1, 1) := by decide +kernel
theorem dX3_correct_133 : decode cX3_correct 133 = .ok (.iadd, 1) := by decide +kernel
theorem dX3_correct_134 : decode cX3_correct 134 = .ok (.putfield 67, 3) := by decide +kernel
theorem dX3_correct_137 : decode cX3_correct 137 = .ok (.goto 16, 3) := by decide +kernel
theorem dX3_correct_140 : decode cX3_correct 140 = .ok (.aload_n 0, 1) := by decide +kernel
theorem dX3_correct_141 : decode cX3_correct 141 = .ok (.getfield 10, 3) := by decide +kernel
theorem dX3_correct_144 : decode cX3_correct 144 = .ok (.dup, 1) := by decide +kernel
theorem dX3_correct_145 : decode cX3_correct 145 = .ok (.getfield 70, 3) := by decide +kernel
theorem dX3_correct_148 : decode cX3_correct 148 = .ok (.iconst 1, 1) := by decide +kernel
theorem dX3_correct_149 : decode cX3_correct 149 = .ok (.iadd, 1) := by decide +kernel
theorem dX3_correct_150 : decode cX3_correct 150 = .ok (.putfield 70, 3) := by decide +kernel
theorem dX3_correct_153 : decode cX3_correct 153 = .ok (.iload_n 3, 1) := by decide +kernel
theorem dX3_correct_154 : decode cX3_correct 154 = .ok (.ireturn, 1) := by decide +kernel
set_option maxRecDepth 20000 in
theorem ggX3_miss_X3_isSensor : GoodIn wsX3_miss wsX3_isSensor := goodIn_r _ [6, 7, 8, 5, 9] (by decide +kernel) (by decide +kernel)
set_option maxRecDepth 20000 in
theorem gX3_miss_X3_isSensor : GoodIn wsX3_miss (va_wsS RX3 82 yX3_isSensor wsX3_isSensor) := goodIn_app (goodIn_of _ (by decide +kernel)) ggX3_miss_X3_isSensor
set_option maxRecDepth 20000 in
theorem ggX3_miss_X3_fail : GoodIn wsX3_miss wsX3_fail := goodIn_r _ [13, 1, 14, 60, 61, 62, 63, 64] (by decide +kernel) (by decide +kernel)
set_option maxRecDepth 20000 in
theorem gX3_miss_X3_fail : GoodIn wsX3_miss (wsV RX3 44 RX3 yX3_fail wsX3_fail) := goodIn_app (goodIn_of _ (by decide +kernel)) ggX3_miss_X3_fail
set_option maxRecDepth 20000 in
theorem ggX3_miss_X3_save : GoodIn wsX3_miss wsX3_save := goodIn_r _ [18, 19, 20, 2, 21, 22, 23, 5, 24, 25, 26, 27, 28, 29, 30, 31, 32, 33, 34, 35, 36, 37, 38, 39, 40, 41, 42, 43, 44, 45, 46, 47, 48, 49, 50, 51, 52, 53, 54, 55, 56, 57, 58, 59, 60, 61, 62, 63, 64, 65, 66, 67, 68, 69, 70, 71, 72, 73, 74, 75, 76, 77, 78, 79, 80, 81, 82, 83, 84, 85] (by decide +kernel) (by decide +kernel)
set_option maxRecDepth 20000 in
theorem gX3_miss_X3_save : GoodIn wsX3_miss (wsV RX3 48 RX3 yX3_save wsX3_save) := goodIn_app (goodIn_of _ (by decide +kernel)) ggX3_miss_X3_save
theorem dX3_miss_0 : decode cX3_miss 0 = .ok (.iload_n 1, 1) := by decide +kernel
theorem dX3_miss_1 : decode cX3_miss 1 = .ok (.invokestatic 82, 3) := by decide +kernel
theorem dX3_miss_4 : decode cX3_miss 4 = .ok (.ifCond .ne 10, 3) := by decide +kernel
theorem dX3_miss_7 : decode cX3_miss 7 = .ok (.aload_n 0, 1) := by decide +kernel
theorem dX3_miss_8 : decode cX3_miss 8 = .ok (.ldc 43, 2) := by decide +kernel
theorem dX3_miss_10 : decode cX3_miss 10 = .ok (.invokevirtual 44, 3) := by decide +kernel
theorem dX3_miss_13 : decode cX3_miss 13 = .ok (.ireturn, 1) := by decide +kernel
theorem dX3_miss_14 : decode cX3_miss 14 = .ok (.aload_n 0, 1) := by decide +kernel
theorem dX3_miss_15 : decode cX3_miss 15 = .ok (.invokevirtual 48, 3) := by decide +kernel
theorem dX3_miss_18 : decode cX3_miss 18 = .ok (.aload_n 0, 1) := by decide +kernel
theorem dX3_miss_19 : decode cX3_miss 19 = .ok (.getfield 10, 3) := by decide +kernel
theorem dX3_miss_22 : decode cX3_miss 22 = .ok (.dup, 1) := by decide +kernel
theorem dX3_miss_23 : decode cX3_miss 23 = .ok (.getfield 73, 3) := by decide +kernel
theorem dX3_miss_26 : decode cX3_miss 26 = .ok (.iconst 1, 1) := by decide +kernel
theorem dX3_miss_27 : decode cX3_miss 27 = .ok (.iadd, 1) := by decide +kernel
theorem dX3_miss_28 : decode cX3_miss 28 = .ok (.putfield 73, 3) := by decide +kernel
theorem dX3_miss_31 : decode cX3_miss 31 = .ok (.aload_n 0, 1) := by decide +kernel
theorem dX3_miss_32 : decode cX3_miss 32 = .ok (.getfield 10, 3) := by decide +kernel
theorem dX3_miss_35 : decode cX3_miss 35 = .ok (.getfield 73, 3) := by decide +kernel
theorem dX3_miss_38 : decode cX3_miss 38 = .ok (.ireturn, 1) := by decide +kernel
theorem dX3_level_0 : decode cX3_level 0 = .ok (.aload_n 0, 1) := by decide +kernel
theorem dX3_level_1 : decode cX3_level 1 = .ok (.getfield 10, 3) := by decide +kernel
theorem dX3_level_4 : decode cX3_level 4 = .ok (.getfield 60, 3) := by decide +kernel
theorem dX3_level_7 : decode cX3_level 7 = .ok (.getfield 111, 3) := by decide +kernel
theorem dX3_level_10 : decode cX3_level 10 = .ok (.l2i, 1) := by decide +kernel
theorem dX3_level_11 : decode cX3_level 11 = .ok (.ireturn, 1) := by decide +kernel
theorem dX3_flow_0 : decode cX3_flow 0 = .ok (.aload_n 0, 1) := by decide +kernel
theorem dX3_flow_1 : decode cX3_flow 1 = .ok (.getfield 10, 3) := by decide +kernel
theorem dX3_flow_4 : decode cX3_flow 4 = .ok (.getfield 60, 3) := by decide +kernel
theorem dX3_flow_7 : decode cX3_flow 7 = .ok (.getfield 119, 3) := by decide +kernel
theorem dX3_flow_10 : decode cX3_flow 10 = .ok (.l2i, 1) := by decide +kernel
theorem dX3_flow_11 : decode cX3_flow 11 = .ok (.ireturn, 1) := by decide +kernel
theorem dX3_levelVariance_0 : decode cX3_levelVariance 0 = .ok (.aload_n 0, 1) := by decide +kernel
theorem dX3_levelVariance_1 : decode cX3_levelVariance 1 = .ok (.getfield 10, 3) := by decide +kernel
theorem dX3_levelVariance_4 : decode cX3_levelVariance 4 = .ok (.getfield 60, 3) := by decide +kernel
theorem dX3_levelVariance_7 : decode cX3_levelVariance 7 = .ok (.getfield 122, 3) := by decide +kernel
theorem dX3_levelVariance_10 : decode cX3_levelVariance 10 = .ok (.l2i, 1) := by decide +kernel
theorem dX3_levelVariance_11 : decode cX3_levelVariance 11 = .ok (.ireturn, 1) := by decide +kernel
theorem dX3_covariance_0 : decode cX3_covariance 0 = .ok (.aload_n 0, 1) := by decide +kernel
theorem dX3_covariance_1 : decode cX3_covariance 1 = .ok (.getfield 10, 3) := by decide +kernel
theorem dX3_covariance_4 : decode cX3_covariance 4 = .ok (.getfield 60, 3) := by decide +kernel
theorem dX3_covariance_7 : decode cX3_covariance 7 = .ok (.getfield 125, 3) := by decide +kernel
theorem dX3_covariance_10 : decode cX3_covariance 10 = .ok (.l2i, 1) := by decide +kernel
theorem dX3_covariance_11 : decode cX3_covariance 11 = .ok (.ireturn, 1) := by decide +kernel
theorem dX3_flowVariance_0 : decode cX3_flowVariance 0 = .ok (.aload_n 0, 1) := by decide +kernel
theorem dX3_flowVariance_1 : decode cX3_flowVariance 1 = .ok (.getfield 10, 3) := by decide +kernel
theorem dX3_flowVariance_4 : decode cX3_flowVariance 4 = .ok (.getfield 60, 3) := by decide +kernel
theorem dX3_flowVariance_7 : decode cX3_flowVariance 7 = .ok (.getfield 128, 3) := by decide +kernel
theorem dX3_flowVariance_10 : decode cX3_flowVariance 10 = .ok (.l2i, 1) := by decide +kernel
theorem dX3_flowVariance_11 : decode cX3_flowVariance 11 = .ok (.ireturn, 1) := by decide +kernel
theorem dX3_innovation_0 : decode cX3_innovation 0 = .ok (.aload_n 0, 1) := by decide +kernel
theorem dX3_innovation_1 : decode cX3_innovation 1 = .ok (.getfield 10, 3) := by decide +kernel
theorem dX3_innovation_4 : decode cX3_innovation 4 = .ok (.getfield 60, 3) := by decide +kernel
theorem dX3_innovation_7 : decode cX3_innovation 7 = .ok (.getfield 131, 3) := by decide +kernel
theorem dX3_innovation_10 : decode cX3_innovation 10 = .ok (.l2i, 1) := by decide +kernel
theorem dX3_innovation_11 : decode cX3_innovation 11 = .ok (.ireturn, 1) := by decide +kernel
theorem dX3_levelGain_0 : decode cX3_levelGain 0 = .ok (.aload_n 0, 1) := by decide +kernel
theorem dX3_levelGain_1 : decode cX3_levelGain 1 = .ok (.getfield 10, 3) := by decide +kernel
theorem dX3_levelGain_4 : decode cX3_levelGain 4 = .ok (.getfield 60, 3) := by decide +kernel
theorem dX3_levelGain_7 : decode cX3_levelGain 7 = .ok (.getfield 134, 3) := by decide +kernel
theorem dX3_levelGain_10 : decode cX3_levelGain 10 = .ok (.l2i, 1) := by decide +kernel
theorem dX3_levelGain_11 : decode cX3_levelGain 11 = .ok (.ireturn, 1) := by decide +kernel
theorem dX3_flowGain_0 : decode cX3_flowGain 0 = .ok (.aload_n 0, 1) := by decide +kernel
theorem dX3_flowGain_1 : decode cX3_flowGain 1 = .ok (.getfield 10, 3) := by decide +kernel
theorem dX3_flowGain_4 : decode cX3_flowGain 4 = .ok (.getfield 60, 3) := by decide +kernel
theorem dX3_flowGain_7 : decode cX3_flowGain 7 = .ok (.getfield 137, 3) := by decide +kernel
theorem dX3_flowGain_10 : decode cX3_flowGain 10 = .ok (.l2i, 1) := by decide +kernel
theorem dX3_flowGain_11 : decode cX3_flowGain 11 = .ok (.ireturn, 1) := by decide +kernel
theorem dX3_accepted_0 : decode cX3_accepted 0 = .ok (.aload_n 0, 1) := by decide +kernel
theorem dX3_accepted_1 : decode cX3_accepted 1 = .ok (.getfield 10, 3) := by decide +kernel
theorem dX3_accepted_4 : decode cX3_accepted 4 = .ok (.getfield 67, 3) := by decide +kernel
theorem dX3_accepted_7 : decode cX3_accepted 7 = .ok (.ireturn, 1) := by decide +kernel
theorem dX3_rejected_0 : decode cX3_rejected 0 = .ok (.aload_n 0, 1) := by decide +kernel
theorem dX3_rejected_1 : decode cX3_rejected 1 = .ok (.getfield 10, 3) := by decide +kernel
theorem dX3_rejected_4 : decode cX3_rejected 4 = .ok (.getfield 70, 3) := by decide +kernel
theorem dX3_rejected_7 : decode cX3_rejected 7 = .ok (.ireturn, 1) := by decide +kernel
theorem dX3_missed_0 : decode cX3_missed 0 = .ok (.aload_n 0, 1) := by decide +kernel
theorem dX3_missed_1 : decode cX3_missed 1 = .ok (.getfield 10, 3) := by decide +kernel
theorem dX3_missed_4 : decode cX3_missed 4 = .ok (.getfield 73, 3) := by decide +kernel
theorem dX3_missed_7 : decode cX3_missed 7 = .ok (.ireturn, 1) := by decide +kernel
theorem dX3_historyLength_0 : decode cX3_historyLength 0 = .ok (.aload_n 0, 1) := by decide +kernel
theorem dX3_historyLength_1 : decode cX3_historyLength 1 = .ok (.getfield 10, 3) := by decide +kernel
theorem dX3_historyLength_4 : decode cX3_historyLength 4 = .ok (.getfield 51, 3) := by decide +kernel
theorem dX3_historyLength_7 : decode cX3_historyLength 7 = .ok (.getfield 55, 3) := by decide +kernel
theorem dX3_historyLength_10 : decode cX3_historyLength 10 = .ok (.ireturn, 1) := by decide +kernel
set_option maxRecDepth 20000 in
theorem ggX3_forecast_X3_isOutside : GoodIn wsX3_forecast wsX3_isOutside := goodIn_r _ [7] (by decide +kernel) (by decide +kernel)
set_option maxRecDepth 20000 in
theorem gX3_forecast_X3_isOutside : GoodIn wsX3_forecast (va_wsS RX3 37 yX3_isOutside wsX3_isOutside) := goodIn_app (goodIn_of _ (by decide +kernel)) ggX3_forecast_X3_isOutside
set_option maxRecDepth 20000 in
theorem ggX3_forecast_X3_fail : GoodIn wsX3_forecast wsX3_fail := goodIn_r _ [11, 1, 12, 46, 47, 48, 49, 50] (by decide +kernel) (by decide +kernel)
set_option maxRecDepth 20000 in
theorem gX3_forecast_X3_fail : GoodIn wsX3_forecast (wsV RX3 44 RX3 yX3_fail wsX3_fail) := goodIn_app (goodIn_of _ (by decide +kernel)) ggX3_forecast_X3_fail
set_option maxRecDepth 20000 in
theorem ggX3_forecast_X3_runPredictions : GoodIn wsX3_forecast wsX3_runPredictions := goodIn_r _ [16, 2, 17, 18, 19, 20, 21, 22, 23, 24, 25, 26, 27, 28, 29, 30, 31, 32, 33, 34, 35, 36, 37, 38, 39, 40, 41, 42, 6, 43, 44, 45, 46, 47, 48, 49, 50, 59, 60, 61, 62, 63, 64, 65, 66, 67, 68, 51, 52, 53, 54, 55, 56, 57, 58] (by decide +kernel) (by decide +kernel)
set_option maxRecDepth 20000 in
theorem gX3_forecast_X3_runPredictions : GoodIn wsX3_forecast (wsV RX3 140 RX3 yX3_runPredictions wsX3_runPredictions) := goodIn_app (goodIn_of _ (by decide +kernel)) ggX3_forecast_X3_runPredictions
theorem dX3_forecast_0 : decode cX3_forecast 0 = .ok (.iload_n 1, 1) := by decide +kernel
theorem dX3_forecast_1 : decode cX3_forecast 1 = .ok (.iconst 0, 1) := by decide +kernel
theorem dX3_forecast_2 : decode cX3_forecast 2 = .ok (.bipush 100, 2) := by decide +kernel
theorem dX3_forecast_4 : decode cX3_forecast 4 = .ok (.invokestatic 37, 3) := by decide +kernel
theorem dX3_forecast_7 : decode cX3_forecast 7 = .ok (.ifCond .eq 10, 3) := by decide +kernel
theorem dX3_forecast_10 : decode cX3_forecast 10 = .ok (.aload_n 0, 1) := by decide +kernel
theorem dX3_forecast_11 : decode cX3_forecast 11 = .ok (.ldc 43, 2) := by decide +kernel
theorem dX3_forecast_13 : decode cX3_forecast 13 = .ok (.invokevirtual 44, 3) := by decide +kernel
theorem dX3_forecast_16 : decode cX3_forecast 16 = .ok (.ireturn, 1) := by decide +kernel
theorem dX3_forecast_17 : decode cX3_forecast 17 = .ok (.aload_n 0, 1) := by decide +kernel
theorem dX3_forecast_18 : decode cX3_forecast 18 = .ok (.iload_n 1, 1) := by decide +kernel
theorem dX3_forecast_19 : decode cX3_forecast 19 = .ok (.invokevirtual 140, 3) := by decide +kernel
theorem dX3_forecast_22 : decode cX3_forecast 22 = .ok (.ifCond .eq 14, 3) := by decide +kernel
theorem dX3_forecast_25 : decode cX3_forecast 25 = .ok (.aload_n 0, 1) := by decide +kernel
theorem dX3_forecast_26 : decode cX3_forecast 26 = .ok (.getfield 31, 3) := by decide +kernel
theorem dX3_forecast_29 : decode cX3_forecast 29 = .ok (.getfield 111, 3) := by decide +kernel
theorem dX3_forecast_32 : decode cX3_forecast 32 = .ok (.l2i, 1) := by decide +kernel
theorem dX3_forecast_33 : decode cX3_forecast 33 = .ok (.goto 9, 3) := by decide +kernel
theorem dX3_forecast_36 : decode cX3_forecast 36 = .ok (.aload_n 0, 1) := by decide +kernel
theorem dX3_forecast_37 : decode cX3_forecast 37 = .ok (.ldc 106, 2) := by decide +kernel
theorem dX3_forecast_39 : decode cX3_forecast 39 = .ok (.invokevirtual 44, 3) := by decide +kernel
theorem dX3_forecast_42 : decode cX3_forecast 42 = .ok (.ireturn, 1) := by decide +kernel
set_option maxRecDepth 20000 in
theorem ggX3_forecastVariance_X3_isOutside : GoodIn wsX3_forecastVariance wsX3_isOutside := goodIn_r _ [7] (by decide +kernel) (by decide +kernel)
set_option maxRecDepth 20000 in
theorem gX3_forecastVariance_X3_isOutside : GoodIn wsX3_forecastVariance (va_wsS RX3 37 yX3_isOutside wsX3_isOutside) := goodIn_app (goodIn_of _ (by decide +kernel)) ggX3_forecastVariance_X3_isOutside
set_option maxRecDepth 20000 in
theorem ggX3_forecastVariance_X3_fail : GoodIn wsX3_forecastVariance wsX3_fail := goodIn_r _ [11, 1, 12, 46, 47, 48, 49, 50] (by decide +kernel) (by decide +kernel)
set_option maxRecDepth 20000 in
theorem gX3_forecastVariance_X3_fail : GoodIn wsX3_forecastVariance (wsV RX3 44 RX3 yX3_fail wsX3_fail) := goodIn_app (goodIn_of _ (by decide +kernel)) ggX3_forecastVariance_X3_fail
set_option maxRecDepth 20000 in
theorem ggX3_forecastVariance_X3_runPredictions : GoodIn wsX3_forecastVariance wsX3_runPredictions := goodIn_r _ [16, 2, 17, 18, 19, 20, 21, 22, 23, 24, 25, 26, 27, 28, 29, 30, 31, 32, 33, 34, 35, 36, 37, 38, 39, 40, 41, 42, 6, 43, 44, 45, 46, 47, 48, 49, 50, 59, 60, 61, 62, 63, 64, 65, 66, 67, 68, 51, 52, 53, 54, 55, 56, 57, 58] (by decide +kernel) (by decide +kernel)
set_option maxRecDepth 20000 in
theorem gX3_forecastVariance_X3_runPredictions : GoodIn wsX3_forecastVariance (wsV RX3 140 RX3 yX3_runPredictions wsX3_runPredictions) := goodIn_app (goodIn_of _ (by decide +kernel)) ggX3_forecastVariance_X3_runPredictions
theorem dX3_forecastVariance_0 : decode cX3_forecastVariance 0 = .ok (.iload_n 1, 1) := by decide +kernel
theorem dX3_forecastVariance_1 : decode cX3_forecastVariance 1 = .ok (.iconst 0, 1) := by decide +kernel
theorem dX3_forecastVariance_2 : decode cX3_forecastVariance 2 = .ok (.bipush 100, 2) := by decide +kernel
theorem dX3_forecastVariance_4 : decode cX3_forecastVariance 4 = .ok (.invokestatic 37, 3) := by decide +kernel
theorem dX3_forecastVariance_7 : decode cX3_forecastVariance 7 = .ok (.ifCond .eq 10, 3) := by decide +kernel
theorem dX3_forecastVariance_10 : decode cX3_forecastVariance 10 = .ok (.aload_n 0, 1) := by decide +kernel
theorem dX3_forecastVariance_11 : decode cX3_forecastVariance 11 = .ok (.ldc 43, 2) := by decide +kernel
theorem dX3_forecastVariance_13 : decode cX3_forecastVariance 13 = .ok (.invokevirtual 44, 3) := by decide +kernel
theorem dX3_forecastVariance_16 : decode cX3_forecastVariance 16 = .ok (.ireturn, 1) := by decide +kernel
theorem dX3_forecastVariance_17 : decode cX3_forecastVariance 17 = .ok (.aload_n 0, 1) := by decide +kernel
theorem dX3_forecastVariance_18 : decode cX3_forecastVariance 18 = .ok (.iload_n 1, 1) := by decide +kernel
theorem dX3_forecastVariance_19 : decode cX3_forecastVariance 19 = .ok (.invokevirtual 140, 3) := by decide +kernel
theorem dX3_forecastVariance_22 : decode cX3_forecastVariance 22 = .ok (.ifCond .eq 14, 3) := by decide +kernel
theorem dX3_forecastVariance_25 : decode cX3_forecastVariance 25 = .ok (.aload_n 0, 1) := by decide +kernel
theorem dX3_forecastVariance_26 : decode cX3_forecastVariance 26 = .ok (.getfield 31, 3) := by decide +kernel
theorem dX3_forecastVariance_29 : decode cX3_forecastVariance 29 = .ok (.getfield 122, 3) := by decide +kernel
theorem dX3_forecastVariance_32 : decode cX3_forecastVariance 32 = .ok (.l2i, 1) := by decide +kernel
theorem dX3_forecastVariance_33 : decode cX3_forecastVariance 33 = .ok (.goto 9, 3) := by decide +kernel
theorem dX3_forecastVariance_36 : decode cX3_forecastVariance 36 = .ok (.aload_n 0, 1) := by decide +kernel
theorem dX3_forecastVariance_37 : decode cX3_forecastVariance 37 = .ok (.ldc 106, 2) := by decide +kernel
theorem dX3_forecastVariance_39 : decode cX3_forecastVariance 39 = .ok (.invokevirtual 44, 3) := by decide +kernel
theorem dX3_forecastVariance_42 : decode cX3_forecastVariance 42 = .ok (.ireturn, 1) := by decide +kernel
set_option maxRecDepth 20000 in
theorem ggX3_stepsTo_X3_isOutside : GoodIn wsX3_stepsTo wsX3_isOutside := goodIn_r _ [10] (by decide +kernel) (by decide +kernel)
set_option maxRecDepth 20000 in
theorem gX3_stepsTo_X3_isOutside : GoodIn wsX3_stepsTo (va_wsS RX3 37 yX3_isOutside wsX3_isOutside) := goodIn_app (goodIn_of _ (by decide +kernel)) ggX3_stepsTo_X3_isOutside
set_option maxRecDepth 20000 in
theorem ggX3_stepsTo_X3_fail : GoodIn wsX3_stepsTo wsX3_fail := goodIn_r _ [14, 3, 15, 44, 45, 46, 47, 48] (by decide +kernel) (by decide +kernel)
set_option maxRecDepth 20000 in
theorem gX3_stepsTo_X3_fail : GoodIn wsX3_stepsTo (wsV RX3 44 RX3 yX3_fail wsX3_fail) := goodIn_app (goodIn_of _ (by decide +kernel)) ggX3_stepsTo_X3_fail
set_option maxRecDepth 20000 in
theorem ggX3_stepsTo_X0_copyFrom : GoodIn wsX3_stepsTo wsX0_copyFrom := goodIn_r _ [19, 20, 21, 22, 23, 24, 25, 26, 27, 59, 60, 61, 62, 63, 64, 65, 66] (by decide +kernel) (by decide +kernel)
set_option maxRecDepth 20000 in
theorem gX3_stepsTo_X0_copyFrom_n98 : GoodIn wsX3_stepsTo (wsX0_copyFrom) := ggX3_stepsTo_X0_copyFrom
set_option maxRecDepth 20000 in
theorem ggX3_stepsTo_X0_advance : GoodIn wsX3_stepsTo wsX0_advance := goodIn_r _ [30, 20, 21, 22, 31, 23, 24, 32, 33, 34, 17, 35, 36, 37, 38, 39, 40, 9, 41, 42, 43, 59, 60, 61, 62, 63, 64, 65, 66] (by decide +kernel) (by decide +kernel)
set_option maxRecDepth 20000 in
theorem gX3_stepsTo_X0_advance_n102 : GoodIn wsX3_stepsTo (wsX0_advance) := ggX3_stepsTo_X0_advance
theorem dX3_stepsTo_0 : decode cX3_stepsTo 0 = .ok (.iload_n 1, 1) := by decide +kernel
theorem dX3_stepsTo_1 : decode cX3_stepsTo 1 = .ok (.ldc 35, 2) := by decide +kernel
theorem dX3_stepsTo_3 : decode cX3_stepsTo 3 = .ok (.ldc 36, 2) := by decide +kernel
theorem dX3_stepsTo_5 : decode cX3_stepsTo 5 = .ok (.invokestatic 37, 3) := by decide +kernel
theorem dX3_stepsTo_8 : decode cX3_stepsTo 8 = .ok (.ifCond .eq 10, 3) := by decide +kernel
theorem dX3_stepsTo_11 : decode cX3_stepsTo 11 = .ok (.aload_n 0, 1) := by decide +kernel
theorem dX3_stepsTo_12 : decode cX3_stepsTo 12 = .ok (.ldc 43, 2) := by decide +kernel
theorem dX3_stepsTo_14 : decode cX3_stepsTo 14 = .ok (.invokevirtual 44, 3) := by decide +kernel
theorem dX3_stepsTo_17 : decode cX3_stepsTo 17 = .ok (.ireturn, 1) := by decide +kernel
theorem dX3_stepsTo_18 : decode cX3_stepsTo 18 = .ok (.aload_n 0, 1) := by decide +kernel
theorem dX3_stepsTo_19 : decode cX3_stepsTo 19 = .ok (.getfield 31, 3) := by decide +kernel
theorem dX3_stepsTo_22 : decode cX3_stepsTo 22 = .ok (.aload_n 0, 1) := by decide +kernel
theorem dX3_stepsTo_23 : decode cX3_stepsTo 23 = .ok (.getfield 10, 3) := by decide +kernel
theorem dX3_stepsTo_26 : decode cX3_stepsTo 26 = .ok (.getfield 60, 3) := by decide +kernel
theorem dX3_stepsTo_29 : decode cX3_stepsTo 29 = .ok (.invokevirtual 98, 3) := by decide +kernel
theorem dX3_stepsTo_32 : decode cX3_stepsTo 32 = .ok (.aload_n 0, 1) := by decide +kernel
theorem dX3_stepsTo_33 : decode cX3_stepsTo 33 = .ok (.getfield 31, 3) := by decide +kernel
theorem dX3_stepsTo_36 : decode cX3_stepsTo 36 = .ok (.getfield 111, 3) := by decide +kernel
theorem dX3_stepsTo_39 : decode cX3_stepsTo 39 = .ok (.iload_n 1, 1) := by decide +kernel
theorem dX3_stepsTo_40 : decode cX3_stepsTo 40 = .ok (.i2l, 1) := by decide +kernel
theorem dX3_stepsTo_41 : decode cX3_stepsTo 41 = .ok (.lcmp, 1) := by decide +kernel
theorem dX3_stepsTo_42 : decode cX3_stepsTo 42 = .ok (.ifCond .ge 7, 3) := by decide +kernel
theorem dX3_stepsTo_45 : decode cX3_stepsTo 45 = .ok (.iconst 1, 1) := by decide +kernel
theorem dX3_stepsTo_46 : decode cX3_stepsTo 46 = .ok (.goto 4, 3) := by decide +kernel
theorem dX3_stepsTo_49 : decode cX3_stepsTo 49 = .ok (.iconst 0, 1) := by decide +kernel
theorem dX3_stepsTo_50 : decode cX3_stepsTo 50 = .ok (.istore_n 2, 1) := by decide +kernel
theorem dX3_stepsTo_51 : decode cX3_stepsTo 51 = .ok (.iconst 0, 1) := by decide +kernel
theorem dX3_stepsTo_52 : decode cX3_stepsTo 52 = .ok (.istore_n 3, 1) := by decide +kernel
theorem dX3_stepsTo_53 : decode cX3_stepsTo 53 = .ok (.iload_n 3, 1) := by decide +kernel
theorem dX3_stepsTo_54 : decode cX3_stepsTo 54 = .ok (.bipush 100, 2) := by decide +kernel
theorem dX3_stepsTo_56 : decode cX3_stepsTo 56 = .ok (.if_icmp .gt 74, 3) := by decide +kernel
theorem dX3_stepsTo_59 : decode cX3_stepsTo 59 = .ok (.iload_n 2, 1) := by decide +kernel
theorem dX3_stepsTo_60 : decode cX3_stepsTo 60 = .ok (.ifCond .eq 19, 3) := by decide +kernel
theorem dX3_stepsTo_63 : decode cX3_stepsTo 63 = .ok (.aload_n 0, 1) := by decide +kernel
theorem dX3_stepsTo_64 : decode cX3_stepsTo 64 = .ok (.getfield 31, 3) := by decide +kernel
theorem dX3_stepsTo_67 : decode cX3_stepsTo 67 = .ok (.getfield 111, 3) := by decide +kernel
theorem dX3_stepsTo_70 : decode cX3_stepsTo 70 = .ok (.iload_n 1, 1) := by decide +kernel
theorem dX3_stepsTo_71 : decode cX3_stepsTo 71 = .ok (.i2l, 1) := by decide +kernel
theorem dX3_stepsTo_72 : decode cX3_stepsTo 72 = .ok (.lcmp, 1) := by decide +kernel
theorem dX3_stepsTo_73 : decode cX3_stepsTo 73 = .ok (.ifCond .lt 21, 3) := by decide +kernel
theorem dX3_stepsTo_76 : decode cX3_stepsTo 76 = .ok (.goto 16, 3) := by decide +kernel
theorem dX3_stepsTo_79 : decode cX3_stepsTo 79 = .ok (.aload_n 0, 1) := by decide +kernel
theorem dX3_stepsTo_80 : decode cX3_stepsTo 80 = .ok (.getfield 31, 3) := by decide +kernel
theorem dX3_stepsTo_83 : decode cX3_stepsTo 83 = .ok (.getfield 111, 3) := by decide +kernel
theorem dX3_stepsTo_86 : decode cX3_stepsTo 86 = .ok (.iload_n 1, 1) := by decide +kernel
theorem dX3_stepsTo_87 : decode cX3_stepsTo 87 = .ok (.i2l, 1) := by decide +kernel
theorem dX3_stepsTo_88 : decode cX3_stepsTo 88 = .ok (.lcmp, 1) := by decide +kernel
theorem dX3_stepsTo_89 : decode cX3_stepsTo 89 = .ok (.ifCond .gt 5, 3) := by decide +kernel
theorem dX3_stepsTo_92 : decode cX3_stepsTo 92 = .ok (.iload_n 3, 1) := by decide +kernel
theorem dX3_stepsTo_93 : decode cX3_stepsTo 93 = .ok (.ireturn, 1) := by decide +kernel
theorem dX3_stepsTo_94 : decode cX3_stepsTo 94 = .ok (.aload_n 0, 1) := by decide +kernel
theorem dX3_stepsTo_95 : decode cX3_stepsTo 95 = .ok (.getfield 31, 3) := by decide +kernel
theorem dX3_stepsTo_98 : decode cX3_stepsTo 98 = .ok (.lconst 0, 1) := by decide +kernel
theorem dX3_stepsTo_99 : decode cX3_stepsTo 99 = .ok (.aload_n 0, 1) := by decide +kernel
theorem dX3_stepsTo_100 : decode cX3_stepsTo 100 = .ok (.getfield 10, 3) := by decide +kernel
theorem dX3_stepsTo_103 : decode cX3_stepsTo 103 = .ok (.getfield 79, 3) := by decide +kernel
theorem dX3_stepsTo_106 : decode cX3_stepsTo 106 = .ok (.i2l, 1) := by decide +kernel
theorem dX3_stepsTo_107 : decode cX3_stepsTo 107 = .ok (.aload_n 0, 1) := by decide +kernel
theorem dX3_stepsTo_108 : decode cX3_stepsTo 108 = .ok (.getfield 10, 3) := by decide +kernel
theorem dX3_stepsTo_111 : decode cX3_stepsTo 111 = .ok (.getfield 76, 3) := by decide +kernel
theorem dX3_stepsTo_114 : decode cX3_stepsTo 114 = .ok (.i2l, 1) := by decide +kernel
theorem dX3_stepsTo_115 : decode cX3_stepsTo 115 = .ok (.invokevirtual 102, 3) := by decide +kernel
theorem dX3_stepsTo_118 : decode cX3_stepsTo 118 = .ok (.ifCond .ne 6, 3) := by decide +kernel
theorem dX3_stepsTo_121 : decode cX3_stepsTo 121 = .ok (.ldc 143, 2) := by decide +kernel
theorem dX3_stepsTo_123 : decode cX3_stepsTo 123 = .ok (.ireturn, 1) := by decide +kernel
theorem dX3_stepsTo_124 : decode cX3_stepsTo 124 = .ok (.iinc 3 1, 3) := by decide +kernel
theorem dX3_stepsTo_127 : decode cX3_stepsTo 127 = .ok (.goto (-74), 3) := by decide +kernel
theorem dX3_stepsTo_130 : decode cX3_stepsTo 130 = .ok (.ldc 143, 2) := by decide +kernel
theorem dX3_stepsTo_132 : decode cX3_stepsTo 132 = .ok (.ireturn, 1) := by decide +kernel
set_option maxRecDepth 20000 in
theorem ggX3_steadyCycles_X3_isSensor : GoodIn wsX3_steadyCycles wsX3_isSensor := goodIn_r _ [6, 7, 8, 5, 9] (by decide +kernel) (by decide +kernel)
set_option maxRecDepth 20000 in
theorem gX3_steadyCycles_X3_isSensor : GoodIn wsX3_steadyCycles (va_wsS RX3 82 yX3_isSensor wsX3_isSensor) := goodIn_app (goodIn_of _ (by decide +kernel)) ggX3_steadyCycles_X3_isSensor
set_option maxRecDepth 20000 in
theorem ggX3_steadyCycles_X3_fail : GoodIn wsX3_steadyCycles wsX3_fail := goodIn_r _ [13, 1, 14, 70, 71, 72, 73, 74] (by decide +kernel) (by decide +kernel)
set_option maxRecDepth 20000 in
theorem gX3_steadyCycles_X3_fail : GoodIn wsX3_steadyCycles (wsV RX3 44 RX3 yX3_fail wsX3_fail) := goodIn_app (goodIn_of _ (by decide +kernel)) ggX3_steadyCycles_X3_fail
set_option maxRecDepth 20000 in
theorem ggX3_steadyCycles_X3_runCyclesUntilSteady : GoodIn wsX3_steadyCycles wsX3_runCyclesUntilSteady := goodIn_r _ [18, 19, 2, 20, 21, 22, 23, 24, 25, 26, 27, 28, 29, 30, 31, 32, 33, 34, 35, 36, 37, 38, 39, 40, 41, 42, 43, 44, 45, 46, 5, 47, 48, 49, 50, 51, 52, 53, 54, 55, 56, 57, 58, 59, 60, 61, 62, 63, 64, 65, 66, 67, 68, 69, 70, 71, 72, 73, 74, 75, 76, 77, 78, 79, 80, 81, 82, 83, 84, 85, 86, 87, 88, 89, 90, 91, 92] (by decide +kernel) (by decide +kernel)
set_option maxRecDepth 20000 in
theorem gX3_steadyCycles_X3_runCyclesUntilSteady : GoodIn wsX3_steadyCycles (wsV RX3 144 RX3 yX3_runCyclesUntilSteady wsX3_runCyclesUntilSteady) := goodIn_app (goodIn_of _ (by decide +kernel)) ggX3_steadyCycles_X3_runCyclesUntilSteady
theorem dX3_steadyCycles_0 : decode cX3_steadyCycles 0 = .ok (.iload_n 1, 1) := by decide +kernel
theorem dX3_steadyCycles_1 : decode cX3_steadyCycles 1 = .ok (.invokestatic 82, 3) := by decide +kernel
theorem dX3_steadyCycles_4 : decode cX3_steadyCycles 4 = .ok (.ifCond .ne 10, 3) := by decide +kernel
theorem dX3_steadyCycles_7 : decode cX3_steadyCycles 7 = .ok (.aload_n 0, 1) := by decide +kernel
theorem dX3_steadyCycles_8 : decode cX3_steadyCycles 8 = .ok (.ldc 43, 2) := by decide +kernel
theorem dX3_steadyCycles_10 : decode cX3_steadyCycles 10 = .ok (.invokevirtual 44, 3) := by decide +kernel
theorem dX3_steadyCycles_13 : decode cX3_steadyCycles 13 = .ok (.ireturn, 1) := by decide +kernel
theorem dX3_steadyCycles_14 : decode cX3_steadyCycles 14 = .ok (.aload_n 0, 1) := by decide +kernel
theorem dX3_steadyCycles_15 : decode cX3_steadyCycles 15 = .ok (.aload_n 0, 1) := by decide +kernel
theorem dX3_steadyCycles_16 : decode cX3_steadyCycles 16 = .ok (.getfield 10, 3) := by decide +kernel
theorem dX3_steadyCycles_19 : decode cX3_steadyCycles 19 = .ok (.getfield 92, 3) := by decide +kernel
theorem dX3_steadyCycles_22 : decode cX3_steadyCycles 22 = .ok (.iload_n 1, 1) := by decide +kernel
theorem dX3_steadyCycles_23 : decode cX3_steadyCycles 23 = .ok (.iaload, 1) := by decide +kernel
theorem dX3_steadyCycles_24 : decode cX3_steadyCycles 24 = .ok (.aload_n 0, 1) := by decide +kernel
theorem dX3_steadyCycles_25 : decode cX3_steadyCycles 25 = .ok (.getfield 10, 3) := by decide +kernel
theorem dX3_steadyCycles_28 : decode cX3_steadyCycles 28 = .ok (.getfield 89, 3) := by decide +kernel
theorem dX3_steadyCycles_31 : decode cX3_steadyCycles 31 = .ok (.iload_n 1, 1) := by decide +kernel
theorem dX3_steadyCycles_32 : decode cX3_steadyCycles 32 = .ok (.iaload, 1) := by decide +kernel
theorem dX3_steadyCycles_33 : decode cX3_steadyCycles 33 = .ok (.invokevirtual 144, 3) := by decide +kernel
theorem dX3_steadyCycles_36 : decode cX3_steadyCycles 36 = .ok (.ireturn, 1) := by decide +kernel
set_option maxRecDepth 20000 in
theorem ggX3_steadyGain_X3_isSensor : GoodIn wsX3_steadyGain wsX3_isSensor := goodIn_r _ [8, 9, 10, 7, 11] (by decide +kernel) (by decide +kernel)
set_option maxRecDepth 20000 in
theorem gX3_steadyGain_X3_isSensor : GoodIn wsX3_steadyGain (va_wsS RX3 82 yX3_isSensor wsX3_isSensor) := goodIn_app (goodIn_of _ (by decide +kernel)) ggX3_steadyGain_X3_isSensor
set_option maxRecDepth 20000 in
theorem ggX3_steadyGain_X3_isKind : GoodIn wsX3_steadyGain wsX3_isKind := goodIn_r _ [14] (by decide +kernel) (by decide +kernel)
set_option maxRecDepth 20000 in
theorem gX3_steadyGain_X3_isKind : GoodIn wsX3_steadyGain (va_wsS RX3 86 yX3_isKind wsX3_isKind) := goodIn_app (goodIn_of _ (by decide +kernel)) ggX3_steadyGain_X3_isKind
set_option maxRecDepth 20000 in
theorem ggX3_steadyGain_X3_fail : GoodIn wsX3_steadyGain wsX3_fail := goodIn_r _ [18, 1, 19, 73, 74, 75, 76, 77] (by decide +kernel) (by decide +kernel)
set_option maxRecDepth 20000 in
theorem gX3_steadyGain_X3_fail : GoodIn wsX3_steadyGain (wsV RX3 44 RX3 yX3_fail wsX3_fail) := goodIn_app (goodIn_of _ (by decide +kernel)) ggX3_steadyGain_X3_fail
set_option maxRecDepth 20000 in
theorem ggX3_steadyGain_X3_runCyclesUntilSteady : GoodIn wsX3_steadyGain wsX3_runCyclesUntilSteady := goodIn_r _ [23, 4, 2, 24, 3, 25, 26, 27, 28, 29, 30, 31, 32, 33, 34, 35, 36, 37, 38, 39, 40, 41, 42, 43, 44, 45, 46, 47, 48, 49, 7, 50, 51, 52, 53, 54, 55, 56, 57, 58, 59, 60, 61, 62, 63, 64, 65, 66, 67, 68, 69, 70, 71, 72, 73, 74, 75, 76, 77, 78, 79, 80, 81, 82, 83, 84, 85, 86, 87, 88, 89, 90, 91, 92, 93, 94, 95] (by decide +kernel) (by decide +kernel)
set_option maxRecDepth 20000 in
theorem gX3_steadyGain_X3_runCyclesUntilSteady : GoodIn wsX3_steadyGain (wsV RX3 144 RX3 yX3_runCyclesUntilSteady wsX3_runCyclesUntilSteady) := goodIn_app (goodIn_of _ (by decide +kernel)) ggX3_steadyGain_X3_runCyclesUntilSteady
theorem dX3_steadyGain_0 : decode cX3_steadyGain 0 = .ok (.iload_n 1, 1) := by decide +kernel
theorem dX3_steadyGain_1 : decode cX3_steadyGain 1 = .ok (.invokestatic 82, 3) := by decide +kernel
theorem dX3_steadyGain_4 : decode cX3_steadyGain 4 = .ok (.ifCond .eq 10, 3) := by decide +kernel
theorem dX3_steadyGain_7 : decode cX3_steadyGain 7 = .ok (.iload_n 2, 1) := by decide +kernel
theorem dX3_steadyGain_8 : decode cX3_steadyGain 8 = .ok (.invokestatic 86, 3) := by decide +kernel
theorem dX3_steadyGain_11 : decode cX3_steadyGain 11 = .ok (.ifCond .ne 10, 3) := by decide +kernel
theorem dX3_steadyGain_14 : decode cX3_steadyGain 14 = .ok (.aload_n 0, 1) := by decide +kernel
theorem dX3_steadyGain_15 : decode cX3_steadyGain 15 = .ok (.ldc 43, 2) := by decide +kernel
theorem dX3_steadyGain_17 : decode cX3_steadyGain 17 = .ok (.invokevirtual 44, 3) := by decide +kernel
theorem dX3_steadyGain_20 : decode cX3_steadyGain 20 = .ok (.ireturn, 1) := by decide +kernel
theorem dX3_steadyGain_21 : decode cX3_steadyGain 21 = .ok (.aload_n 0, 1) := by decide +kernel
theorem dX3_steadyGain_22 : decode cX3_steadyGain 22 = .ok (.aload_n 0, 1) := by decide +kernel
theorem dX3_steadyGain_23 : decode cX3_steadyGain 23 = .ok (.getfield 10, 3) := by decide +kernel
theorem dX3_steadyGain_26 : decode cX3_steadyGain 26 = .ok (.getfield 92, 3) := by decide +kernel
theorem dX3_steadyGain_29 : decode cX3_steadyGain 29 = .ok (.iload_n 1, 1) := by decide +kernel
theorem dX3_steadyGain_30 : decode cX3_steadyGain 30 = .ok (.iaload, 1) := by decide +kernel
theorem dX3_steadyGain_31 : decode cX3_steadyGain 31 = .ok (.aload_n 0, 1) := by decide +kernel
theorem dX3_steadyGain_32 : decode cX3_steadyGain 32 = .ok (.getfield 10, 3) := by decide +kernel
theorem dX3_steadyGain_35 : decode cX3_steadyGain 35 = .ok (.getfield 89, 3) := by decide +kernel
theorem dX3_steadyGain_38 : decode cX3_steadyGain 38 = .ok (.iload_n 1, 1) := by decide +kernel
theorem dX3_steadyGain_39 : decode cX3_steadyGain 39 = .ok (.iaload, 1) := by decide +kernel
theorem dX3_steadyGain_40 : decode cX3_steadyGain 40 = .ok (.invokevirtual 144, 3) := by decide +kernel
theorem dX3_steadyGain_43 : decode cX3_steadyGain 43 = .ok (.istore_n 3, 1) := by decide +kernel
theorem dX3_steadyGain_44 : decode cX3_steadyGain 44 = .ok (.iload_n 3, 1) := by decide +kernel
theorem dX3_steadyGain_45 : decode cX3_steadyGain 45 = .ok (.ldc 143, 2) := by decide +kernel
theorem dX3_steadyGain_47 : decode cX3_steadyGain 47 = .ok (.if_icmp .ne 6, 3) := by decide +kernel
theorem dX3_steadyGain_50 : decode cX3_steadyGain 50 = .ok (.ldc 143, 2) := by decide +kernel
theorem dX3_steadyGain_52 : decode cX3_steadyGain 52 = .ok (.ireturn, 1) := by decide +kernel
theorem dX3_steadyGain_53 : decode cX3_steadyGain 53 = .ok (.iload_n 2, 1) := by decide +kernel
theorem dX3_steadyGain_54 : decode cX3_steadyGain 54 = .ok (.ifCond .ne 13, 3) := by decide +kernel
theorem dX3_steadyGain_57 : decode cX3_steadyGain 57 = .ok (.aload_n 0, 1) := by decide +kernel
theorem dX3_steadyGain_58 : decode cX3_steadyGain 58 = .ok (.getfield 31, 3) := by decide +kernel
theorem dX3_steadyGain_61 : decode cX3_steadyGain 61 = .ok (.getfield 134, 3) := by decide +kernel
theorem dX3_steadyGain_64 : decode cX3_steadyGain 64 = .ok (.goto 10, 3) := by decide +kernel
theorem dX3_steadyGain_67 : decode cX3_steadyGain 67 = .ok (.aload_n 0, 1) := by decide +kernel
theorem dX3_steadyGain_68 : decode cX3_steadyGain 68 = .ok (.getfield 31, 3) := by decide +kernel
theorem dX3_steadyGain_71 : decode cX3_steadyGain 71 = .ok (.getfield 137, 3) := by decide +kernel
theorem dX3_steadyGain_74 : decode cX3_steadyGain 74 = .ok (.l2i, 1) := by decide +kernel
theorem dX3_steadyGain_75 : decode cX3_steadyGain 75 = .ok (.ireturn, 1) := by decide +kernel
set_option maxRecDepth 20000 in
theorem ggX3_replayError_X3_isOutside : GoodIn wsX3_replayError wsX3_isOutside := goodIn_r _ [9] (by decide +kernel) (by decide +kernel)
set_option maxRecDepth 20000 in
theorem gX3_replayError_X3_isOutside : GoodIn wsX3_replayError (va_wsS RX3 37 yX3_isOutside wsX3_isOutside) := goodIn_app (goodIn_of _ (by decide +kernel)) ggX3_replayError_X3_isOutside
set_option maxRecDepth 20000 in
theorem ggX3_replayError_X3_fail : GoodIn wsX3_replayError wsX3_fail := goodIn_r _ [13, 2, 14, 81, 82, 83, 84, 85] (by decide +kernel) (by decide +kernel)
set_option maxRecDepth 20000 in
theorem gX3_replayError_X3_fail : GoodIn wsX3_replayError (wsV RX3 44 RX3 yX3_fail wsX3_fail) := goodIn_app (goodIn_of _ (by decide +kernel)) ggX3_replayError_X3_fail
set_option maxRecDepth 20000 in
theorem ggX3_replayError_X1_hasReading : GoodIn wsX3_replayError wsX1_hasReading := goodIn_r _ [18, 19, 20, 96, 97, 98] (by decide +kernel) (by decide +kernel)
set_option maxRecDepth 20000 in
theorem gX3_replayError_X1_hasReading_n148 : GoodIn wsX3_replayError (wsX1_hasReading) := ggX3_replayError_X1_hasReading
set_option maxRecDepth 20000 in
theorem ggX3_replayError_X3_runReplay : GoodIn wsX3_replayError wsX3_runReplay := goodIn_r _ [24, 25, 3, 5, 26, 27, 28, 29, 30, 31, 32, 33, 34, 35, 36, 37, 38, 39, 40, 41, 42, 43, 8, 44, 6, 7, 9, 45, 46, 47, 48, 49, 50, 51, 52, 53, 54, 55, 56, 57, 58, 59, 60, 61, 62, 63, 64, 65, 66, 67, 68, 69, 70, 71, 72, 73, 74, 75, 76, 77, 78, 79, 80, 81, 82, 83, 84, 85, 86, 87, 88, 89, 90, 91, 92, 93, 94, 95, 96, 97, 98, 99, 100, 101, 102, 103, 104, 105, 106] (by decide +kernel) (by decide +kernel)
set_option maxRecDepth 20000 in
theorem gX3_replayError_X3_runReplay : GoodIn wsX3_replayError (wsV RX3 153 RX3 yX3_runReplay wsX3_runReplay) := goodIn_app (goodIn_of _ (by decide +kernel)) ggX3_replayError_X3_runReplay
theorem dX3_replayError_0 : decode cX3_replayError 0 = .ok (.iload_n 1, 1) := by decide +kernel
theorem dX3_replayError_1 : decode cX3_replayError 1 = .ok (.iconst 0, 1) := by decide +kernel
theorem dX3_replayError_2 : decode cX3_replayError 2 = .ok (.ldc 42, 2) := by decide +kernel
theorem dX3_replayError_4 : decode cX3_replayError 4 = .ok (.invokestatic 37, 3) := by decide +kernel
theorem dX3_replayError_7 : decode cX3_replayError 7 = .ok (.ifCond .eq 10, 3) := by decide +kernel
theorem dX3_replayError_10 : decode cX3_replayError 10 = .ok (.aload_n 0, 1) := by decide +kernel
theorem dX3_replayError_11 : decode cX3_replayError 11 = .ok (.ldc 43, 2) := by decide +kernel
theorem dX3_replayError_13 : decode cX3_replayError 13 = .ok (.invokevirtual 44, 3) := by decide +kernel
theorem dX3_replayError_16 : decode cX3_replayError 16 = .ok (.ireturn, 1) := by decide +kernel
theorem dX3_replayError_17 : decode cX3_replayError 17 = .ok (.aload_n 0, 1) := by decide +kernel
theorem dX3_replayError_18 : decode cX3_replayError 18 = .ok (.getfield 10, 3) := by decide +kernel
theorem dX3_replayError_21 : decode cX3_replayError 21 = .ok (.getfield 51, 3) := by decide +kernel
theorem dX3_replayError_24 : decode cX3_replayError 24 = .ok (.invokevirtual 148, 3) := by decide +kernel
theorem dX3_replayError_27 : decode cX3_replayError 27 = .ok (.ifCond .ne 10, 3) := by decide +kernel
theorem dX3_replayError_30 : decode cX3_replayError 30 = .ok (.aload_n 0, 1) := by decide +kernel
theorem dX3_replayError_31 : decode cX3_replayError 31 = .ok (.ldc 152, 2) := by decide +kernel
theorem dX3_replayError_33 : decode cX3_replayError 33 = .ok (.invokevirtual 44, 3) := by decide +kernel
