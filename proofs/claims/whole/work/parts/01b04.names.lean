theorem dX3_replayError_36 : decode cX3_replayError 36 = .ok (.ireturn, 1) := by decide +kernel
theorem dX3_replayError_37 : decode cX3_replayError 37 = .ok (.aload_n 0, 1) := by decide +kernel
theorem dX3_replayError_38 : decode cX3_replayError 38 = .ok (.iload_n 1, 1) := by decide +kernel
theorem dX3_replayError_39 : decode cX3_replayError 39 = .ok (.invokevirtual 153, 3) := by decide +kernel
theorem dX3_replayError_42 : decode cX3_replayError 42 = .ok (.istore_n 2, 1) := by decide +kernel
theorem dX3_replayError_43 : decode cX3_replayError 43 = .ok (.iload_n 2, 1) := by decide +kernel
theorem dX3_replayError_44 : decode cX3_replayError 44 = .ok (.ldc 106, 2) := by decide +kernel
theorem dX3_replayError_46 : decode cX3_replayError 46 = .ok (.if_icmp .ne 12, 3) := by decide +kernel
theorem dX3_replayError_49 : decode cX3_replayError 49 = .ok (.aload_n 0, 1) := by decide +kernel
theorem dX3_replayError_50 : decode cX3_replayError 50 = .ok (.ldc 106, 2) := by decide +kernel
theorem dX3_replayError_52 : decode cX3_replayError 52 = .ok (.invokevirtual 44, 3) := by decide +kernel
theorem dX3_replayError_55 : decode cX3_replayError 55 = .ok (.goto 4, 3) := by decide +kernel
theorem dX3_replayError_58 : decode cX3_replayError 58 = .ok (.iload_n 2, 1) := by decide +kernel
theorem dX3_replayError_59 : decode cX3_replayError 59 = .ok (.ireturn, 1) := by decide +kernel
set_option maxRecDepth 20000 in
theorem ggX3_bestFlowNoise_X1_hasReading : GoodIn wsX3_bestFlowNoise wsX1_hasReading := goodIn_r _ [10, 11, 12, 98, 99, 100] (by decide +kernel) (by decide +kernel)
set_option maxRecDepth 20000 in
theorem gX3_bestFlowNoise_X1_hasReading_n148 : GoodIn wsX3_bestFlowNoise (wsX1_hasReading) := ggX3_bestFlowNoise_X1_hasReading
set_option maxRecDepth 20000 in
theorem ggX3_bestFlowNoise_X3_fail : GoodIn wsX3_bestFlowNoise wsX3_fail := goodIn_r _ [17, 18, 19, 83, 84, 85, 86, 87] (by decide +kernel) (by decide +kernel)
set_option maxRecDepth 20000 in
theorem gX3_bestFlowNoise_X3_fail : GoodIn wsX3_bestFlowNoise (wsV RX3 44 RX3 yX3_fail wsX3_fail) := goodIn_app (goodIn_of _ (by decide +kernel)) ggX3_bestFlowNoise_X3_fail
set_option maxRecDepth 20000 in
theorem ggX3_bestFlowNoise_X3_runReplay : GoodIn wsX3_bestFlowNoise wsX3_runReplay := goodIn_r _ [23, 24, 1, 6, 25, 26, 27, 28, 29, 30, 31, 32, 33, 34, 35, 36, 37, 38, 39, 40, 41, 42, 16, 43, 44, 45, 46, 47, 48, 49, 50, 51, 52, 53, 54, 55, 56, 57, 58, 59, 60, 61, 62, 63, 64, 65, 66, 67, 68, 69, 70, 71, 72, 73, 74, 75, 76, 77, 78, 79, 80, 81, 82, 83, 84, 85, 86, 87, 88, 89, 90, 91, 92, 93, 94, 95, 96, 97, 98, 99, 100, 101, 102, 103, 104, 105, 106, 107, 108] (by decide +kernel) (by decide +kernel)
set_option maxRecDepth 20000 in
theorem gX3_bestFlowNoise_X3_runReplay : GoodIn wsX3_bestFlowNoise (wsV RX3 153 RX3 yX3_runReplay wsX3_runReplay) := goodIn_app (goodIn_of _ (by decide +kernel)) ggX3_bestFlowNoise_X3_runReplay
theorem dX3_bestFlowNoise_0 : decode cX3_bestFlowNoise 0 = .ok (.aload_n 0, 1) := by decide +kernel
theorem dX3_bestFlowNoise_1 : decode cX3_bestFlowNoise 1 = .ok (.getfield 10, 3) := by decide +kernel
theorem dX3_bestFlowNoise_4 : decode cX3_bestFlowNoise 4 = .ok (.getfield 51, 3) := by decide +kernel
theorem dX3_bestFlowNoise_7 : decode cX3_bestFlowNoise 7 = .ok (.invokevirtual 148, 3) := by decide +kernel
theorem dX3_bestFlowNoise_10 : decode cX3_bestFlowNoise 10 = .ok (.ifCond .ne 10, 3) := by decide +kernel
theorem dX3_bestFlowNoise_13 : decode cX3_bestFlowNoise 13 = .ok (.aload_n 0, 1) := by decide +kernel
theorem dX3_bestFlowNoise_14 : decode cX3_bestFlowNoise 14 = .ok (.ldc 152, 2) := by decide +kernel
theorem dX3_bestFlowNoise_16 : decode cX3_bestFlowNoise 16 = .ok (.invokevirtual 44, 3) := by decide +kernel
theorem dX3_bestFlowNoise_19 : decode cX3_bestFlowNoise 19 = .ok (.ireturn, 1) := by decide +kernel
theorem dX3_bestFlowNoise_20 : decode cX3_bestFlowNoise 20 = .ok (.ldc 143, 2) := by decide +kernel
theorem dX3_bestFlowNoise_22 : decode cX3_bestFlowNoise 22 = .ok (.istore_n 1, 1) := by decide +kernel
theorem dX3_bestFlowNoise_23 : decode cX3_bestFlowNoise 23 = .ok (.ldc2_w 156, 3) := by decide +kernel
theorem dX3_bestFlowNoise_26 : decode cX3_bestFlowNoise 26 = .ok (.lstore_n 2, 1) := by decide +kernel
theorem dX3_bestFlowNoise_27 : decode cX3_bestFlowNoise 27 = .ok (.iconst 0, 1) := by decide +kernel
theorem dX3_bestFlowNoise_28 : decode cX3_bestFlowNoise 28 = .ok (.istore 4, 2) := by decide +kernel
theorem dX3_bestFlowNoise_30 : decode cX3_bestFlowNoise 30 = .ok (.iload 4, 2) := by decide +kernel
theorem dX3_bestFlowNoise_32 : decode cX3_bestFlowNoise 32 = .ok (.getstatic 158, 3) := by decide +kernel
theorem dX3_bestFlowNoise_35 : decode cX3_bestFlowNoise 35 = .ok (.arraylength, 1) := by decide +kernel
theorem dX3_bestFlowNoise_36 : decode cX3_bestFlowNoise 36 = .ok (.if_icmp .ge 47, 3) := by decide +kernel
theorem dX3_bestFlowNoise_39 : decode cX3_bestFlowNoise 39 = .ok (.aload_n 0, 1) := by decide +kernel
theorem dX3_bestFlowNoise_40 : decode cX3_bestFlowNoise 40 = .ok (.getstatic 158, 3) := by decide +kernel
theorem dX3_bestFlowNoise_43 : decode cX3_bestFlowNoise 43 = .ok (.iload 4, 2) := by decide +kernel
theorem dX3_bestFlowNoise_45 : decode cX3_bestFlowNoise 45 = .ok (.iaload, 1) := by decide +kernel
theorem dX3_bestFlowNoise_46 : decode cX3_bestFlowNoise 46 = .ok (.invokevirtual 153, 3) := by decide +kernel
theorem dX3_bestFlowNoise_49 : decode cX3_bestFlowNoise 49 = .ok (.istore 5, 2) := by decide +kernel
theorem dX3_bestFlowNoise_51 : decode cX3_bestFlowNoise 51 = .ok (.iload 5, 2) := by decide +kernel
theorem dX3_bestFlowNoise_53 : decode cX3_bestFlowNoise 53 = .ok (.ldc 106, 2) := by decide +kernel
theorem dX3_bestFlowNoise_55 : decode cX3_bestFlowNoise 55 = .ok (.if_icmp .eq 22, 3) := by decide +kernel
theorem dX3_bestFlowNoise_58 : decode cX3_bestFlowNoise 58 = .ok (.iload 5, 2) := by decide +kernel
theorem dX3_bestFlowNoise_60 : decode cX3_bestFlowNoise 60 = .ok (.i2l, 1) := by decide +kernel
theorem dX3_bestFlowNoise_61 : decode cX3_bestFlowNoise 61 = .ok (.lload_n 2, 1) := by decide +kernel
theorem dX3_bestFlowNoise_62 : decode cX3_bestFlowNoise 62 = .ok (.lcmp, 1) := by decide +kernel
theorem dX3_bestFlowNoise_63 : decode cX3_bestFlowNoise 63 = .ok (.ifCond .ge 14, 3) := by decide +kernel
theorem dX3_bestFlowNoise_66 : decode cX3_bestFlowNoise 66 = .ok (.getstatic 158, 3) := by decide +kernel
theorem dX3_bestFlowNoise_69 : decode cX3_bestFlowNoise 69 = .ok (.iload 4, 2) := by decide +kernel
theorem dX3_bestFlowNoise_71 : decode cX3_bestFlowNoise 71 = .ok (.iaload, 1) := by decide +kernel
theorem dX3_bestFlowNoise_72 : decode cX3_bestFlowNoise 72 = .ok (.istore_n 1, 1) := by decide +kernel
theorem dX3_bestFlowNoise_73 : decode cX3_bestFlowNoise 73 = .ok (.iload 5, 2) := by decide +kernel
theorem dX3_bestFlowNoise_75 : decode cX3_bestFlowNoise 75 = .ok (.i2l, 1) := by decide +kernel
theorem dX3_bestFlowNoise_76 : decode cX3_bestFlowNoise 76 = .ok (.lstore_n 2, 1) := by decide +kernel
theorem dX3_bestFlowNoise_77 : decode cX3_bestFlowNoise 77 = .ok (.iinc 4 1, 3) := by decide +kernel
theorem dX3_bestFlowNoise_80 : decode cX3_bestFlowNoise 80 = .ok (.goto (-50), 3) := by decide +kernel
theorem dX3_bestFlowNoise_83 : decode cX3_bestFlowNoise 83 = .ok (.iload_n 1, 1) := by decide +kernel
theorem dX3_bestFlowNoise_84 : decode cX3_bestFlowNoise 84 = .ok (.ireturn, 1) := by decide +kernel
set_option maxRecDepth 20000 in
theorem ggX3_undo_X3_fail : GoodIn wsX3_undo wsX3_fail := goodIn_r _ [9, 10, 11, 47, 48, 49, 50, 51] (by decide +kernel) (by decide +kernel)
set_option maxRecDepth 20000 in
theorem gX3_undo_X3_fail : GoodIn wsX3_undo (wsV RX3 44 RX3 yX3_fail wsX3_fail) := goodIn_app (goodIn_of _ (by decide +kernel)) ggX3_undo_X3_fail
set_option maxRecDepth 20000 in
theorem ggX3_undo_X2_copyFrom : GoodIn wsX3_undo wsX2_copyFrom := goodIn_r _ [15, 16, 17, 18, 19, 20, 21, 22, 23, 24, 25, 26, 27, 28, 29, 30, 31, 32, 33, 34, 35, 36, 37, 38, 8, 39, 40, 41, 42, 43, 44, 45, 46, 52, 53, 54, 55, 56, 57, 58, 59, 60, 61, 62, 63, 64, 65, 66, 67, 68, 69, 70, 71, 72] (by decide +kernel) (by decide +kernel)
set_option maxRecDepth 20000 in
theorem gX3_undo_X2_copyFrom_n161 : GoodIn wsX3_undo (wsX2_copyFrom) := ggX3_undo_X2_copyFrom
theorem dX3_undo_0 : decode cX3_undo 0 = .ok (.aload_n 0, 1) := by decide +kernel
theorem dX3_undo_1 : decode cX3_undo 1 = .ok (.getfield 20, 3) := by decide +kernel
theorem dX3_undo_4 : decode cX3_undo 4 = .ok (.ifCond .le 15, 3) := by decide +kernel
theorem dX3_undo_7 : decode cX3_undo 7 = .ok (.aload_n 0, 1) := by decide +kernel
theorem dX3_undo_8 : decode cX3_undo 8 = .ok (.getfield 20, 3) := by decide +kernel
theorem dX3_undo_11 : decode cX3_undo 11 = .ok (.aload_n 0, 1) := by decide +kernel
theorem dX3_undo_12 : decode cX3_undo 12 = .ok (.getfield 16, 3) := by decide +kernel
theorem dX3_undo_15 : decode cX3_undo 15 = .ok (.arraylength, 1) := by decide +kernel
theorem dX3_undo_16 : decode cX3_undo 16 = .ok (.if_icmp .le 10, 3) := by decide +kernel
theorem dX3_undo_19 : decode cX3_undo 19 = .ok (.aload_n 0, 1) := by decide +kernel
theorem dX3_undo_20 : decode cX3_undo 20 = .ok (.ldc 152, 2) := by decide +kernel
theorem dX3_undo_22 : decode cX3_undo 22 = .ok (.invokevirtual 44, 3) := by decide +kernel
theorem dX3_undo_25 : decode cX3_undo 25 = .ok (.ireturn, 1) := by decide +kernel
theorem dX3_undo_26 : decode cX3_undo 26 = .ok (.aload_n 0, 1) := by decide +kernel
theorem dX3_undo_27 : decode cX3_undo 27 = .ok (.dup, 1) := by decide +kernel
theorem dX3_undo_28 : decode cX3_undo 28 = .ok (.getfield 20, 3) := by decide +kernel
theorem dX3_undo_31 : decode cX3_undo 31 = .ok (.iconst 1, 1) := by decide +kernel
theorem dX3_undo_32 : decode cX3_undo 32 = .ok (.isub, 1) := by decide +kernel
theorem dX3_undo_33 : decode cX3_undo 33 = .ok (.putfield 20, 3) := by decide +kernel
theorem dX3_undo_36 : decode cX3_undo 36 = .ok (.aload_n 0, 1) := by decide +kernel
theorem dX3_undo_37 : decode cX3_undo 37 = .ok (.getfield 10, 3) := by decide +kernel
theorem dX3_undo_40 : decode cX3_undo 40 = .ok (.aload_n 0, 1) := by decide +kernel
theorem dX3_undo_41 : decode cX3_undo 41 = .ok (.getfield 16, 3) := by decide +kernel
theorem dX3_undo_44 : decode cX3_undo 44 = .ok (.aload_n 0, 1) := by decide +kernel
theorem dX3_undo_45 : decode cX3_undo 45 = .ok (.getfield 20, 3) := by decide +kernel
theorem dX3_undo_48 : decode cX3_undo 48 = .ok (.aaload, 1) := by decide +kernel
theorem dX3_undo_49 : decode cX3_undo 49 = .ok (.invokevirtual 161, 3) := by decide +kernel
theorem dX3_undo_52 : decode cX3_undo 52 = .ok (.aload_n 0, 1) := by decide +kernel
theorem dX3_undo_53 : decode cX3_undo 53 = .ok (.getfield 20, 3) := by decide +kernel
theorem dX3_undo_56 : decode cX3_undo 56 = .ok (.ireturn, 1) := by decide +kernel
set_option maxRecDepth 20000 in
theorem ggX3_errorCount_X3_isOutside : GoodIn wsX3_errorCount wsX3_isOutside := goodIn_r _ [6] (by decide +kernel) (by decide +kernel)
set_option maxRecDepth 20000 in
theorem gX3_errorCount_X3_isOutside : GoodIn wsX3_errorCount (va_wsS RX3 37 yX3_isOutside wsX3_isOutside) := goodIn_app (goodIn_of _ (by decide +kernel)) ggX3_errorCount_X3_isOutside
set_option maxRecDepth 20000 in
theorem ggX3_errorCount_X3_fail : GoodIn wsX3_errorCount wsX3_fail := goodIn_r _ [10, 1, 2, 11, 12, 13, 14, 15] (by decide +kernel) (by decide +kernel)
set_option maxRecDepth 20000 in
theorem gX3_errorCount_X3_fail : GoodIn wsX3_errorCount (wsV RX3 44 RX3 yX3_fail wsX3_fail) := goodIn_app (goodIn_of _ (by decide +kernel)) ggX3_errorCount_X3_fail
theorem dX3_errorCount_0 : decode cX3_errorCount 0 = .ok (.iload_n 1, 1) := by decide +kernel
theorem dX3_errorCount_1 : decode cX3_errorCount 1 = .ok (.iconst 0, 1) := by decide +kernel
theorem dX3_errorCount_2 : decode cX3_errorCount 2 = .ok (.iconst 2, 1) := by decide +kernel
theorem dX3_errorCount_3 : decode cX3_errorCount 3 = .ok (.invokestatic 37, 3) := by decide +kernel
theorem dX3_errorCount_6 : decode cX3_errorCount 6 = .ok (.ifCond .eq 10, 3) := by decide +kernel
theorem dX3_errorCount_9 : decode cX3_errorCount 9 = .ok (.aload_n 0, 1) := by decide +kernel
theorem dX3_errorCount_10 : decode cX3_errorCount 10 = .ok (.ldc 43, 2) := by decide +kernel
theorem dX3_errorCount_12 : decode cX3_errorCount 12 = .ok (.invokevirtual 44, 3) := by decide +kernel
theorem dX3_errorCount_15 : decode cX3_errorCount 15 = .ok (.ireturn, 1) := by decide +kernel
theorem dX3_errorCount_16 : decode cX3_errorCount 16 = .ok (.aload_n 0, 1) := by decide +kernel
theorem dX3_errorCount_17 : decode cX3_errorCount 17 = .ok (.getfield 24, 3) := by decide +kernel
theorem dX3_errorCount_20 : decode cX3_errorCount 20 = .ok (.iload_n 1, 1) := by decide +kernel
theorem dX3_errorCount_21 : decode cX3_errorCount 21 = .ok (.iaload, 1) := by decide +kernel
theorem dX3_errorCount_22 : decode cX3_errorCount 22 = .ok (.ireturn, 1) := by decide +kernel
set_option maxRecDepth 20000 in
theorem ggX3_digest_X3_mix : GoodIn wsX3_digest wsX3_mix := goodIn_r _ [8, 9] (by decide +kernel) (by decide +kernel)
set_option maxRecDepth 20000 in
theorem gX3_digest_X3_mix : GoodIn wsX3_digest (va_wsS RX3 166 yX3_mix wsX3_mix) := goodIn_app (goodIn_of _ (by decide +kernel)) ggX3_digest_X3_mix
set_option maxRecDepth 20000 in
theorem ggX3_digest_X2_mixInto : GoodIn wsX3_digest wsX2_mixInto := goodIn_r _ [13, 14, 15, 16, 17, 18, 19, 20, 21, 22, 23, 24, 25, 26, 27, 28, 29, 30, 31, 32, 6, 7, 8, 9, 33, 34, 35, 36, 37, 38, 39, 40, 41, 42, 43, 44, 45, 51, 52, 53, 54, 55, 56, 57, 58, 59, 60, 61, 62, 63, 64, 65, 66, 67, 68, 69, 70, 71] (by decide +kernel) (by decide +kernel)
set_option maxRecDepth 20000 in
theorem gX3_digest_X2_mixInto_n170 : GoodIn wsX3_digest (wsX2_mixInto) := ggX3_digest_X2_mixInto
theorem dX3_digest_0 : decode cX3_digest 0 = .ok (.ldc2_w 164, 3) := by decide +kernel
theorem dX3_digest_3 : decode cX3_digest 3 = .ok (.lstore_n 1, 1) := by decide +kernel
theorem dX3_digest_4 : decode cX3_digest 4 = .ok (.iconst 0, 1) := by decide +kernel
theorem dX3_digest_5 : decode cX3_digest 5 = .ok (.istore_n 3, 1) := by decide +kernel
theorem dX3_digest_6 : decode cX3_digest 6 = .ok (.iload_n 3, 1) := by decide +kernel
theorem dX3_digest_7 : decode cX3_digest 7 = .ok (.aload_n 0, 1) := by decide +kernel
theorem dX3_digest_8 : decode cX3_digest 8 = .ok (.getfield 24, 3) := by decide +kernel
theorem dX3_digest_11 : decode cX3_digest 11 = .ok (.arraylength, 1) := by decide +kernel
theorem dX3_digest_12 : decode cX3_digest 12 = .ok (.if_icmp .ge 21, 3) := by decide +kernel
theorem dX3_digest_15 : decode cX3_digest 15 = .ok (.lload_n 1, 1) := by decide +kernel
theorem dX3_digest_16 : decode cX3_digest 16 = .ok (.aload_n 0, 1) := by decide +kernel
theorem dX3_digest_17 : decode cX3_digest 17 = .ok (.getfield 24, 3) := by decide +kernel
theorem dX3_digest_20 : decode cX3_digest 20 = .ok (.iload_n 3, 1) := by decide +kernel
theorem dX3_digest_21 : decode cX3_digest 21 = .ok (.iaload, 1) := by decide +kernel
theorem dX3_digest_22 : decode cX3_digest 22 = .ok (.i2l, 1) := by decide +kernel
theorem dX3_digest_23 : decode cX3_digest 23 = .ok (.invokestatic 166, 3) := by decide +kernel
theorem dX3_digest_26 : decode cX3_digest 26 = .ok (.lstore_n 1, 1) := by decide +kernel
theorem dX3_digest_27 : decode cX3_digest 27 = .ok (.iinc 3 1, 3) := by decide +kernel
theorem dX3_digest_30 : decode cX3_digest 30 = .ok (.goto (-24), 3) := by decide +kernel
theorem dX3_digest_33 : decode cX3_digest 33 = .ok (.lload_n 1, 1) := by decide +kernel
theorem dX3_digest_34 : decode cX3_digest 34 = .ok (.aload_n 0, 1) := by decide +kernel
theorem dX3_digest_35 : decode cX3_digest 35 = .ok (.getfield 20, 3) := by decide +kernel
theorem dX3_digest_38 : decode cX3_digest 38 = .ok (.i2l, 1) := by decide +kernel
theorem dX3_digest_39 : decode cX3_digest 39 = .ok (.invokestatic 166, 3) := by decide +kernel
theorem dX3_digest_42 : decode cX3_digest 42 = .ok (.lstore_n 1, 1) := by decide +kernel
theorem dX3_digest_43 : decode cX3_digest 43 = .ok (.aload_n 0, 1) := by decide +kernel
theorem dX3_digest_44 : decode cX3_digest 44 = .ok (.getfield 10, 3) := by decide +kernel
theorem dX3_digest_47 : decode cX3_digest 47 = .ok (.lload_n 1, 1) := by decide +kernel
theorem dX3_digest_48 : decode cX3_digest 48 = .ok (.invokevirtual 170, 3) := by decide +kernel
theorem dX3_digest_51 : decode cX3_digest 51 = .ok (.lreturn, 1) := by decide +kernel
theorem dX3_isOutside_0 : decode cX3_isOutside 0 = .ok (.iload_n 0, 1) := by decide +kernel
theorem dX3_isOutside_1 : decode cX3_isOutside 1 = .ok (.iload_n 1, 1) := by decide +kernel
theorem dX3_isOutside_2 : decode cX3_isOutside 2 = .ok (.if_icmp .lt 8, 3) := by decide +kernel
theorem dX3_isOutside_5 : decode cX3_isOutside 5 = .ok (.iload_n 0, 1) := by decide +kernel
theorem dX3_isOutside_6 : decode cX3_isOutside 6 = .ok (.iload_n 2, 1) := by decide +kernel
theorem dX3_isOutside_7 : decode cX3_isOutside 7 = .ok (.if_icmp .le 7, 3) := by decide +kernel
theorem dX3_isOutside_10 : decode cX3_isOutside 10 = .ok (.iconst 1, 1) := by decide +kernel
theorem dX3_isOutside_11 : decode cX3_isOutside 11 = .ok (.goto 4, 3) := by decide +kernel
theorem dX3_isOutside_14 : decode cX3_isOutside 14 = .ok (.iconst 0, 1) := by decide +kernel
theorem dX3_isOutside_15 : decode cX3_isOutside 15 = .ok (.ireturn, 1) := by decide +kernel
set_option maxRecDepth 20000 in
theorem ggX3_isSensor_X3_isOutside : GoodIn wsX3_isSensor wsX3_isOutside := goodIn_r _ [4] (by decide +kernel) (by decide +kernel)
set_option maxRecDepth 20000 in
theorem gX3_isSensor_X3_isOutside : GoodIn wsX3_isSensor (va_wsS RX3 37 yX3_isOutside wsX3_isOutside) := goodIn_app (goodIn_of _ (by decide +kernel)) ggX3_isSensor_X3_isOutside
theorem dX3_isSensor_0 : decode cX3_isSensor 0 = .ok (.iload_n 0, 1) := by decide +kernel
theorem dX3_isSensor_1 : decode cX3_isSensor 1 = .ok (.iconst 0, 1) := by decide +kernel
theorem dX3_isSensor_2 : decode cX3_isSensor 2 = .ok (.iconst 3, 1) := by decide +kernel
theorem dX3_isSensor_3 : decode cX3_isSensor 3 = .ok (.invokestatic 37, 3) := by decide +kernel
theorem dX3_isSensor_6 : decode cX3_isSensor 6 = .ok (.ifCond .ne 7, 3) := by decide +kernel
theorem dX3_isSensor_9 : decode cX3_isSensor 9 = .ok (.iconst 1, 1) := by decide +kernel
theorem dX3_isSensor_10 : decode cX3_isSensor 10 = .ok (.goto 4, 3) := by decide +kernel
theorem dX3_isSensor_13 : decode cX3_isSensor 13 = .ok (.iconst 0, 1) := by decide +kernel
theorem dX3_isSensor_14 : decode cX3_isSensor 14 = .ok (.ireturn, 1) := by decide +kernel
theorem dX3_isKind_0 : decode cX3_isKind 0 = .ok (.iload_n 0, 1) := by decide +kernel
theorem dX3_isKind_1 : decode cX3_isKind 1 = .ok (.ifCond .eq 8, 3) := by decide +kernel
theorem dX3_isKind_4 : decode cX3_isKind 4 = .ok (.iload_n 0, 1) := by decide +kernel
theorem dX3_isKind_5 : decode cX3_isKind 5 = .ok (.iconst 1, 1) := by decide +kernel
theorem dX3_isKind_6 : decode cX3_isKind 6 = .ok (.if_icmp .ne 7, 3) := by decide +kernel
theorem dX3_isKind_9 : decode cX3_isKind 9 = .ok (.iconst 1, 1) := by decide +kernel
theorem dX3_isKind_10 : decode cX3_isKind 10 = .ok (.goto 4, 3) := by decide +kernel
theorem dX3_isKind_13 : decode cX3_isKind 13 = .ok (.iconst 0, 1) := by decide +kernel
theorem dX3_isKind_14 : decode cX3_isKind 14 = .ok (.ireturn, 1) := by decide +kernel
theorem dX3_isInLimit_0 : decode cX3_isInLimit 0 = .ok (.lload_n 0, 1) := by decide +kernel
theorem dX3_isInLimit_1 : decode cX3_isInLimit 1 = .ok (.ldc2_w 174, 3) := by decide +kernel
theorem dX3_isInLimit_4 : decode cX3_isInLimit 4 = .ok (.lcmp, 1) := by decide +kernel
theorem dX3_isInLimit_5 : decode cX3_isInLimit 5 = .ok (.ifCond .lt 15, 3) := by decide +kernel
theorem dX3_isInLimit_8 : decode cX3_isInLimit 8 = .ok (.lload_n 0, 1) := by decide +kernel
theorem dX3_isInLimit_9 : decode cX3_isInLimit 9 = .ok (.ldc2_w 176, 3) := by decide +kernel
theorem dX3_isInLimit_12 : decode cX3_isInLimit 12 = .ok (.lcmp, 1) := by decide +kernel
theorem dX3_isInLimit_13 : decode cX3_isInLimit 13 = .ok (.ifCond .gt 7, 3) := by decide +kernel
theorem dX3_isInLimit_16 : decode cX3_isInLimit 16 = .ok (.iconst 1, 1) := by decide +kernel
theorem dX3_isInLimit_17 : decode cX3_isInLimit 17 = .ok (.goto 4, 3) := by decide +kernel
theorem dX3_isInLimit_20 : decode cX3_isInLimit 20 = .ok (.iconst 0, 1) := by decide +kernel
theorem dX3_isInLimit_21 : decode cX3_isInLimit 21 = .ok (.ireturn, 1) := by decide +kernel
set_option maxRecDepth 20000 in
theorem ggX3_times_J9_floorDiv_f86c9 : GoodIn wsX3_times wsJ9_floorDiv_f86c9 := goodIn_r _ [6] (by decide +kernel) (by decide +kernel)
set_option maxRecDepth 20000 in
theorem gX3_times_J9_floorDiv_f86c9 : GoodIn wsX3_times (va_wsS RX3 182 yJ9_floorDiv_f86c9 wsJ9_floorDiv_f86c9) := goodIn_app (goodIn_of _ (by decide +kernel)) ggX3_times_J9_floorDiv_f86c9
theorem dX3_times_0 : decode cX3_times 0 = .ok (.lload_n 0, 1) := by decide +kernel
theorem dX3_times_1 : decode cX3_times 1 = .ok (.lload_n 2, 1) := by decide +kernel
theorem dX3_times_2 : decode cX3_times 2 = .ok (.lmul, 1) := by decide +kernel
theorem dX3_times_3 : decode cX3_times 3 = .ok (.ldc2_w 178, 3) := by decide +kernel
theorem dX3_times_6 : decode cX3_times 6 = .ok (.ladd, 1) := by decide +kernel
theorem dX3_times_7 : decode cX3_times 7 = .ok (.ldc2_w 180, 3) := by decide +kernel
theorem dX3_times_10 : decode cX3_times 10 = .ok (.invokestatic 182, 3) := by decide +kernel
theorem dX3_times_13 : decode cX3_times 13 = .ok (.lreturn, 1) := by decide +kernel
set_option maxRecDepth 20000 in
theorem ggX3_dividedBy_J9_floorDiv_f86c9 : GoodIn wsX3_dividedBy wsJ9_floorDiv_f86c9 := goodIn_r _ [6] (by decide +kernel) (by decide +kernel)
set_option maxRecDepth 20000 in
theorem gX3_dividedBy_J9_floorDiv_f86c9 : GoodIn wsX3_dividedBy (va_wsS RX3 182 yJ9_floorDiv_f86c9 wsJ9_floorDiv_f86c9) := goodIn_app (goodIn_of _ (by decide +kernel)) ggX3_dividedBy_J9_floorDiv_f86c9
theorem dX3_dividedBy_0 : decode cX3_dividedBy 0 = .ok (.lload_n 2, 1) := by decide +kernel
theorem dX3_dividedBy_1 : decode cX3_dividedBy 1 = .ok (.lconst 0, 1) := by decide +kernel
theorem dX3_dividedBy_2 : decode cX3_dividedBy 2 = .ok (.lcmp, 1) := by decide +kernel
theorem dX3_dividedBy_3 : decode cX3_dividedBy 3 = .ok (.ifCond .gt 5, 3) := by decide +kernel
theorem dX3_dividedBy_6 : decode cX3_dividedBy 6 = .ok (.lconst 0, 1) := by decide +kernel
theorem dX3_dividedBy_7 : decode cX3_dividedBy 7 = .ok (.lreturn, 1) := by decide +kernel
theorem dX3_dividedBy_8 : decode cX3_dividedBy 8 = .ok (.lload_n 0, 1) := by decide +kernel
theorem dX3_dividedBy_9 : decode cX3_dividedBy 9 = .ok (.ldc2_w 180, 3) := by decide +kernel
theorem dX3_dividedBy_12 : decode cX3_dividedBy 12 = .ok (.lmul, 1) := by decide +kernel
theorem dX3_dividedBy_13 : decode cX3_dividedBy 13 = .ok (.lload_n 2, 1) := by decide +kernel
theorem dX3_dividedBy_14 : decode cX3_dividedBy 14 = .ok (.ldc2_w 187, 3) := by decide +kernel
theorem dX3_dividedBy_17 : decode cX3_dividedBy 17 = .ok (.ldiv, 1) := by decide +kernel
theorem dX3_dividedBy_18 : decode cX3_dividedBy 18 = .ok (.ladd, 1) := by decide +kernel
theorem dX3_dividedBy_19 : decode cX3_dividedBy 19 = .ok (.lload_n 2, 1) := by decide +kernel
theorem dX3_dividedBy_20 : decode cX3_dividedBy 20 = .ok (.invokestatic 182, 3) := by decide +kernel
theorem dX3_dividedBy_23 : decode cX3_dividedBy 23 = .ok (.lreturn, 1) := by decide +kernel
theorem dX3_mix_0 : decode cX3_mix 0 = .ok (.ldc2_w 189, 3) := by decide +kernel
theorem dX3_mix_3 : decode cX3_mix 3 = .ok (.lload_n 0, 1) := by decide +kernel
theorem dX3_mix_4 : decode cX3_mix 4 = .ok (.lmul, 1) := by decide +kernel
theorem dX3_mix_5 : decode cX3_mix 5 = .ok (.lload_n 2, 1) := by decide +kernel
theorem dX3_mix_6 : decode cX3_mix 6 = .ok (.ladd, 1) := by decide +kernel
theorem dX3_mix_7 : decode cX3_mix 7 = .ok (.lreturn, 1) := by decide +kernel
theorem dX3_copyRow_0 : decode cX3_copyRow 0 = .ok (.iconst 0, 1) := by decide +kernel
theorem dX3_copyRow_1 : decode cX3_copyRow 1 = .ok (.istore_n 2, 1) := by decide +kernel
theorem dX3_copyRow_2 : decode cX3_copyRow 2 = .ok (.iload_n 2, 1) := by decide +kernel
theorem dX3_copyRow_3 : decode cX3_copyRow 3 = .ok (.aload_n 0, 1) := by decide +kernel
theorem dX3_copyRow_4 : decode cX3_copyRow 4 = .ok (.arraylength, 1) := by decide +kernel
theorem dX3_copyRow_5 : decode cX3_copyRow 5 = .ok (.if_icmp .ge 21, 3) := by decide +kernel
theorem dX3_copyRow_8 : decode cX3_copyRow 8 = .ok (.iload_n 2, 1) := by decide +kernel
theorem dX3_copyRow_9 : decode cX3_copyRow 9 = .ok (.aload_n 1, 1) := by decide +kernel
theorem dX3_copyRow_10 : decode cX3_copyRow 10 = .ok (.arraylength, 1) := by decide +kernel
theorem dX3_copyRow_11 : decode cX3_copyRow 11 = .ok (.if_icmp .ge 15, 3) := by decide +kernel
theorem dX3_copyRow_14 : decode cX3_copyRow 14 = .ok (.aload_n 1, 1) := by decide +kernel
theorem dX3_copyRow_15 : decode cX3_copyRow 15 = .ok (.iload_n 2, 1) := by decide +kernel
theorem dX3_copyRow_16 : decode cX3_copyRow 16 = .ok (.aload_n 0, 1) := by decide +kernel
theorem dX3_copyRow_17 : decode cX3_copyRow 17 = .ok (.iload_n 2, 1) := by decide +kernel
theorem dX3_copyRow_18 : decode cX3_copyRow 18 = .ok (.iaload, 1) := by decide +kernel
theorem dX3_copyRow_19 : decode cX3_copyRow 19 = .ok (.iastore, 1) := by decide +kernel
theorem dX3_copyRow_20 : decode cX3_copyRow 20 = .ok (.iinc 2 1, 3) := by decide +kernel
theorem dX3_copyRow_23 : decode cX3_copyRow 23 = .ok (.goto (-21), 3) := by decide +kernel
theorem dX3_copyRow_26 : decode cX3_copyRow 26 = .ok (.return_, 1) := by decide +kernel
theorem dX3_fail_0 : decode cX3_fail 0 = .ok (.ldc 43, 2) := by decide +kernel
theorem dX3_fail_2 : decode cX3_fail 2 = .ok (.iload_n 1, 1) := by decide +kernel
theorem dX3_fail_3 : decode cX3_fail 3 = .ok (.isub, 1) := by decide +kernel
theorem dX3_fail_4 : decode cX3_fail 4 = .ok (.istore_n 2, 1) := by decide +kernel
theorem dX3_fail_5 : decode cX3_fail 5 = .ok (.iload_n 2, 1) := by decide +kernel
theorem dX3_fail_6 : decode cX3_fail 6 = .ok (.ifCond .lt 22, 3) := by decide +kernel
theorem dX3_fail_9 : decode cX3_fail 9 = .ok (.iload_n 2, 1) := by decide +kernel
theorem dX3_fail_10 : decode cX3_fail 10 = .ok (.aload_n 0, 1) := by decide +kernel
theorem dX3_fail_11 : decode cX3_fail 11 = .ok (.getfield 24, 3) := by decide +kernel
theorem dX3_fail_14 : decode cX3_fail 14 = .ok (.arraylength, 1) := by decide +kernel
theorem dX3_fail_15 : decode cX3_fail 15 = .ok (.if_icmp .ge 13, 3) := by decide +kernel
theorem dX3_fail_18 : decode cX3_fail 18 = .ok (.aload_n 0, 1) := by decide +kernel
theorem dX3_fail_19 : decode cX3_fail 19 = .ok (.getfield 24, 3) := by decide +kernel
theorem dX3_fail_22 : decode cX3_fail 22 = .ok (.iload_n 2, 1) := by decide +kernel
theorem dX3_fail_23 : decode cX3_fail 23 = .ok (.dup2, 1) := by decide +kernel
theorem dX3_fail_24 : decode cX3_fail 24 = .ok (.iaload, 1) := by decide +kernel
theorem dX3_fail_25 : decode cX3_fail 25 = .ok (.iconst 1, 1) := by decide +kernel
theorem dX3_fail_26 : decode cX3_fail 26 = .ok (.iadd, 1) := by decide +kernel
theorem dX3_fail_27 : decode cX3_fail 27 = .ok (.iastore, 1) := by decide +kernel
theorem dX3_fail_28 : decode cX3_fail 28 = .ok (.iload_n 1, 1) := by decide +kernel
theorem dX3_fail_29 : decode cX3_fail 29 = .ok (.ireturn, 1) := by decide +kernel
set_option maxRecDepth 20000 in
theorem ggX3_save_X3_dropOldestSaved : GoodIn wsX3_save wsX3_dropOldestSaved := goodIn_r _ [8, 2, 1, 44, 45, 46, 47, 48] (by decide +kernel) (by decide +kernel)
set_option maxRecDepth 20000 in
theorem gX3_save_X3_dropOldestSaved : GoodIn wsX3_save (wsV RX3 191 RX3 yX3_dropOldestSaved wsX3_dropOldestSaved) := goodIn_app (goodIn_of _ (by decide +kernel)) ggX3_save_X3_dropOldestSaved
set_option maxRecDepth 20000 in
theorem ggX3_save_X2_copyFrom : GoodIn wsX3_save wsX2_copyFrom := goodIn_r _ [12, 13, 14, 15, 16, 17, 18, 19, 20, 21, 22, 23, 24, 25, 26, 27, 28, 29, 30, 31, 32, 33, 34, 35, 7, 36, 37, 38, 39, 40, 41, 42, 43, 49, 50, 51, 52, 53, 54, 55, 56, 57, 58, 59, 60, 61, 62, 63, 64, 65, 66, 67, 68, 69] (by decide +kernel) (by decide +kernel)
set_option maxRecDepth 20000 in
theorem gX3_save_X2_copyFrom_n161 : GoodIn wsX3_save (wsX2_copyFrom) := ggX3_save_X2_copyFrom
theorem dX3_save_0 : decode cX3_save 0 = .ok (.aload_n 0, 1) := by decide +kernel
theorem dX3_save_1 : decode cX3_save 1 = .ok (.getfield 20, 3) := by decide +kernel
theorem dX3_save_4 : decode cX3_save 4 = .ok (.aload_n 0, 1) := by decide +kernel
theorem dX3_save_5 : decode cX3_save 5 = .ok (.getfield 16, 3) := by decide +kernel
theorem dX3_save_8 : decode cX3_save 8 = .ok (.arraylength, 1) := by decide +kernel
theorem dX3_save_9 : decode cX3_save 9 = .ok (.if_icmp .lt 7, 3) := by decide +kernel
theorem dX3_save_12 : decode cX3_save 12 = .ok (.aload_n 0, 1) := by decide +kernel
theorem dX3_save_13 : decode cX3_save 13 = .ok (.invokevirtual 191, 3) := by decide +kernel
theorem dX3_save_16 : decode cX3_save 16 = .ok (.aload_n 0, 1) := by decide +kernel
theorem dX3_save_17 : decode cX3_save 17 = .ok (.getfield 20, 3) := by decide +kernel
theorem dX3_save_20 : decode cX3_save 20 = .ok (.ifCond .lt 41, 3) := by decide +kernel
theorem dX3_save_23 : decode cX3_save 23 = .ok (.aload_n 0, 1) := by decide +kernel
theorem dX3_save_24 : decode cX3_save 24 = .ok (.getfield 20, 3) := by decide +kernel
theorem dX3_save_27 : decode cX3_save 27 = .ok (.aload_n 0, 1) := by decide +kernel
theorem dX3_save_28 : decode cX3_save 28 = .ok (.getfield 16, 3) := by decide +kernel
theorem dX3_save_31 : decode cX3_save 31 = .ok (.arraylength, 1) := by decide +kernel
theorem dX3_save_32 : decode cX3_save 32 = .ok (.if_icmp .ge 29, 3) := by decide +kernel
theorem dX3_save_35 : decode cX3_save 35 = .ok (.aload_n 0, 1) := by decide +kernel
theorem dX3_save_36 : decode cX3_save 36 = .ok (.getfield 16, 3) := by decide +kernel
theorem dX3_save_39 : decode cX3_save 39 = .ok (.aload_n 0, 1) := by decide +kernel
theorem dX3_save_40 : decode cX3_save 40 = .ok (.getfield 20, 3) := by decide +kernel
theorem dX3_save_43 : decode cX3_save 43 = .ok (.aaload, 1) := by decide +kernel
theorem dX3_save_44 : decode cX3_save 44 = .ok (.aload_n 0, 1) := by decide +kernel
theorem dX3_save_45 : decode cX3_save 45 = .ok (.getfield 10, 3) := by decide +kernel
theorem dX3_save_48 : decode cX3_save 48 = .ok (.invokevirtual 161, 3) := by decide +kernel
theorem dX3_save_51 : decode cX3_save 51 = .ok (.aload_n 0, 1) := by decide +kernel
theorem dX3_save_52 : decode cX3_save 52 = .ok (.dup, 1) := by decide +kernel
theorem dX3_save_53 : decode cX3_save 53 = .ok (.getfield 20, 3) := by decide +kernel
theorem dX3_save_56 : decode cX3_save 56 = .ok (.iconst 1, 1) := by decide +kernel
theorem dX3_save_57 : decode cX3_save 57 = .ok (.iadd, 1) := by decide +kernel
theorem dX3_save_58 : decode cX3_save 58 = .ok (.putfield 20, 3) := by decide +kernel
theorem dX3_save_61 : decode cX3_save 61 = .ok (.return_, 1) := by decide +kernel
theorem dX3_dropOldestSaved_0 : decode cX3_dropOldestSaved 0 = .ok (.aload_n 0, 1) := by decide +kernel
theorem dX3_dropOldestSaved_1 : decode cX3_dropOldestSaved 1 = .ok (.getfield 16, 3) := by decide +kernel
theorem dX3_dropOldestSaved_4 : decode cX3_dropOldestSaved 4 = .ok (.iconst 0, 1) := by decide +kernel
theorem dX3_dropOldestSaved_5 : decode cX3_dropOldestSaved 5 = .ok (.aaload, 1) := by decide +kernel
theorem dX3_dropOldestSaved_6 : decode cX3_dropOldestSaved 6 = .ok (.astore_n 1, 1) := by decide +kernel
theorem dX3_dropOldestSaved_7 : decode cX3_dropOldestSaved 7 = .ok (.iconst 1, 1) := by decide +kernel
theorem dX3_dropOldestSaved_8 : decode cX3_dropOldestSaved 8 = .ok (.istore_n 2, 1) := by decide +kernel
theorem dX3_dropOldestSaved_9 : decode cX3_dropOldestSaved 9 = .ok (.iload_n 2, 1) := by decide +kernel
theorem dX3_dropOldestSaved_10 : decode cX3_dropOldestSaved 10 = .ok (.aload_n 0, 1) := by decide +kernel
theorem dX3_dropOldestSaved_11 : decode cX3_dropOldestSaved 11 = .ok (.getfield 16, 3) := by decide +kernel
theorem dX3_dropOldestSaved_14 : decode cX3_dropOldestSaved 14 = .ok (.arraylength, 1) := by decide +kernel
theorem dX3_dropOldestSaved_15 : decode cX3_dropOldestSaved 15 = .ok (.if_icmp .ge 23, 3) := by decide +kernel
theorem dX3_dropOldestSaved_18 : decode cX3_dropOldestSaved 18 = .ok (.aload_n 0, 1) := by decide +kernel
theorem dX3_dropOldestSaved_19 : decode cX3_dropOldestSaved 19 = .ok (.getfield 16, 3) := by decide +kernel
theorem dX3_dropOldestSaved_22 : decode cX3_dropOldestSaved 22 = .ok (.iload_n 2, 1) := by decide +kernel
theorem dX3_dropOldestSaved_23 : decode cX3_dropOldestSaved 23 = .ok (.iconst 1, 1) := by decide +kernel
theorem dX3_dropOldestSaved_24 : decode cX3_dropOldestSaved 24 = .ok (.isub, 1) := by decide +kernel
theorem dX3_dropOldestSaved_25 : decode cX3_dropOldestSaved 25 = .ok (.aload_n 0, 1) := by decide +kernel
theorem dX3_dropOldestSaved_26 : decode cX3_dropOldestSaved 26 = .ok (.getfield 16, 3) := by decide +kernel
theorem dX3_dropOldestSaved_29 : decode cX3_dropOldestSaved 29 = .ok (.iload_n 2, 1) := by decide +kernel
theorem dX3_dropOldestSaved_30 : decode cX3_dropOldestSaved 30 = .ok (.aaload, 1) := by decide +kernel
theorem dX3_dropOldestSaved_31 : decode cX3_dropOldestSaved 31 = .ok (.aastore, 1) := by decide +kernel
theorem dX3_dropOldestSaved_32 : decode cX3_dropOldestSaved 32 = .ok (.iinc 2 1, 3) := by decide +kernel
theorem dX3_dropOldestSaved_35 : decode cX3_dropOldestSaved 35 = .ok (.goto (-26), 3) := by decide +kernel
theorem dX3_dropOldestSaved_38 : decode cX3_dropOldestSaved 38 = .ok (.aload_n 0, 1) := by decide +kernel
theorem dX3_dropOldestSaved_39 : decode cX3_dropOldestSaved 39 = .ok (.getfield 16, 3) := by decide +kernel
theorem dX3_dropOldestSaved_42 : decode cX3_dropOldestSaved 42 = .ok (.aload_n 0, 1) := by decide +kernel
theorem dX3_dropOldestSaved_43 : decode cX3_dropOldestSaved 43 = .ok (.getfield 16, 3) := by decide +kernel
theorem dX3_dropOldestSaved_46 : decode cX3_dropOldestSaved 46 = .ok (.arraylength, 1) := by decide +kernel
theorem dX3_dropOldestSaved_47 : decode cX3_dropOldestSaved 47 = .ok (.iconst 1, 1) := by decide +kernel
theorem dX3_dropOldestSaved_48 : decode cX3_dropOldestSaved 48 = .ok (.isub, 1) := by decide +kernel
theorem dX3_dropOldestSaved_49 : decode cX3_dropOldestSaved 49 = .ok (.aload_n 1, 1) := by decide +kernel
theorem dX3_dropOldestSaved_50 : decode cX3_dropOldestSaved 50 = .ok (.aastore, 1) := by decide +kernel
theorem dX3_dropOldestSaved_51 : decode cX3_dropOldestSaved 51 = .ok (.aload_n 0, 1) := by decide +kernel
theorem dX3_dropOldestSaved_52 : decode cX3_dropOldestSaved 52 = .ok (.aload_n 0, 1) := by decide +kernel
theorem dX3_dropOldestSaved_53 : decode cX3_dropOldestSaved 53 = .ok (.getfield 16, 3) := by decide +kernel
theorem dX3_dropOldestSaved_56 : decode cX3_dropOldestSaved 56 = .ok (.arraylength, 1) := by decide +kernel
theorem dX3_dropOldestSaved_57 : decode cX3_dropOldestSaved 57 = .ok (.iconst 1, 1) := by decide +kernel
theorem dX3_dropOldestSaved_58 : decode cX3_dropOldestSaved 58 = .ok (.isub, 1) := by decide +kernel
theorem dX3_dropOldestSaved_59 : decode cX3_dropOldestSaved 59 = .ok (.putfield 20, 3) := by decide +kernel
theorem dX3_dropOldestSaved_62 : decode cX3_dropOldestSaved 62 = .ok (.return_, 1) := by decide +kernel
set_option maxRecDepth 20000 in
theorem ggX3_runPredictions_X0_copyFrom : GoodIn wsX3_runPredictions wsX0_copyFrom := goodIn_r _ [6, 7, 8, 9, 10, 11, 12, 13, 14, 47, 48, 49, 50, 51, 52, 53, 54] (by decide +kernel) (by decide +kernel)
set_option maxRecDepth 20000 in
theorem gX3_runPredictions_X0_copyFrom_n98 : GoodIn wsX3_runPredictions (wsX0_copyFrom) := ggX3_runPredictions_X0_copyFrom
set_option maxRecDepth 20000 in
theorem ggX3_runPredictions_X0_advance : GoodIn wsX3_runPredictions wsX0_advance := goodIn_r _ [17, 7, 8, 9, 18, 10, 11, 19, 20, 21, 4, 22, 23, 24, 25, 26, 27, 28, 29, 30, 31, 47, 48, 49, 50, 51, 52, 53, 54] (by decide +kernel) (by decide +kernel)
set_option maxRecDepth 20000 in
theorem gX3_runPredictions_X0_advance_n102 : GoodIn wsX3_runPredictions (wsX0_advance) := ggX3_runPredictions_X0_advance
theorem dX3_runPredictions_0 : decode cX3_runPredictions 0 = .ok (.aload_n 0, 1) := by decide +kernel
theorem dX3_runPredictions_1 : decode cX3_runPredictions 1 = .ok (.getfield 31, 3) := by decide +kernel
theorem dX3_runPredictions_4 : decode cX3_runPredictions 4 = .ok (.aload_n 0, 1) := by decide +kernel
