theorem dX4_replayError_2 : decode cX4_replayError 2 = .ok (.ldc 73, 2) := by decide +kernel
theorem dX4_replayError_4 : decode cX4_replayError 4 = .ok (.invokestatic 68, 3) := by decide +kernel
theorem dX4_replayError_7 : decode cX4_replayError 7 = .ok (.ifCond .ne 10, 3) := by decide +kernel
theorem dX4_replayError_10 : decode cX4_replayError 10 = .ok (.aload_n 0, 1) := by decide +kernel
theorem dX4_replayError_11 : decode cX4_replayError 11 = .ok (.ldc 26, 2) := by decide +kernel
theorem dX4_replayError_13 : decode cX4_replayError 13 = .ok (.invokevirtual 74, 3) := by decide +kernel
theorem dX4_replayError_16 : decode cX4_replayError 16 = .ok (.ireturn, 1) := by decide +kernel
theorem dX4_replayError_17 : decode cX4_replayError 17 = .ok (.aload_n 0, 1) := by decide +kernel
theorem dX4_replayError_18 : decode cX4_replayError 18 = .ok (.invokevirtual 112, 3) := by decide +kernel
theorem dX4_replayError_21 : decode cX4_replayError 21 = .ok (.ifCond .ne 10, 3) := by decide +kernel
theorem dX4_replayError_24 : decode cX4_replayError 24 = .ok (.aload_n 0, 1) := by decide +kernel
theorem dX4_replayError_25 : decode cX4_replayError 25 = .ok (.ldc 116, 2) := by decide +kernel
theorem dX4_replayError_27 : decode cX4_replayError 27 = .ok (.invokevirtual 74, 3) := by decide +kernel
theorem dX4_replayError_30 : decode cX4_replayError 30 = .ok (.ireturn, 1) := by decide +kernel
theorem dX4_replayError_31 : decode cX4_replayError 31 = .ok (.aload_n 0, 1) := by decide +kernel
theorem dX4_replayError_32 : decode cX4_replayError 32 = .ok (.iload_n 1, 1) := by decide +kernel
theorem dX4_replayError_33 : decode cX4_replayError 33 = .ok (.invokevirtual 117, 3) := by decide +kernel
theorem dX4_replayError_36 : decode cX4_replayError 36 = .ok (.lstore_n 2, 1) := by decide +kernel
theorem dX4_replayError_37 : decode cX4_replayError 37 = .ok (.lload_n 2, 1) := by decide +kernel
theorem dX4_replayError_38 : decode cX4_replayError 38 = .ok (.lconst 0, 1) := by decide +kernel
theorem dX4_replayError_39 : decode cX4_replayError 39 = .ok (.lcmp, 1) := by decide +kernel
theorem dX4_replayError_40 : decode cX4_replayError 40 = .ok (.ifCond .ge 12, 3) := by decide +kernel
theorem dX4_replayError_43 : decode cX4_replayError 43 = .ok (.aload_n 0, 1) := by decide +kernel
theorem dX4_replayError_44 : decode cX4_replayError 44 = .ok (.ldc 92, 2) := by decide +kernel
theorem dX4_replayError_46 : decode cX4_replayError 46 = .ok (.invokevirtual 74, 3) := by decide +kernel
theorem dX4_replayError_49 : decode cX4_replayError 49 = .ok (.goto 5, 3) := by decide +kernel
theorem dX4_replayError_52 : decode cX4_replayError 52 = .ok (.lload_n 2, 1) := by decide +kernel
theorem dX4_replayError_53 : decode cX4_replayError 53 = .ok (.l2i, 1) := by decide +kernel
theorem dX4_replayError_54 : decode cX4_replayError 54 = .ok (.ireturn, 1) := by decide +kernel
set_option maxRecDepth 20000 in
theorem ggX4_bestFlowNoise_X4_hasReading : GoodIn wsX4_bestFlowNoise wsX4_hasReading := goodIn_r _ [8, 9, 54, 55, 56, 57, 58, 59, 60, 61, 62] (by decide +kernel) (by decide +kernel)
set_option maxRecDepth 20000 in
theorem gX4_bestFlowNoise_X4_hasReading : GoodIn wsX4_bestFlowNoise (wsV RX4 112 RX4 yX4_hasReading wsX4_hasReading) := goodIn_app (goodIn_of _ (by decide +kernel)) ggX4_bestFlowNoise_X4_hasReading
set_option maxRecDepth 20000 in
theorem ggX4_bestFlowNoise_X4_fail : GoodIn wsX4_bestFlowNoise wsX4_fail := goodIn_r _ [13, 14, 15, 54, 55, 56, 57, 58, 59, 60, 61, 62] (by decide +kernel) (by decide +kernel)
set_option maxRecDepth 20000 in
theorem gX4_bestFlowNoise_X4_fail : GoodIn wsX4_bestFlowNoise (wsV RX4 74 RX4 yX4_fail wsX4_fail) := goodIn_app (goodIn_of _ (by decide +kernel)) ggX4_bestFlowNoise_X4_fail
set_option maxRecDepth 20000 in
theorem ggX4_bestFlowNoise_X4_errorOf : GoodIn wsX4_bestFlowNoise wsX4_errorOf := goodIn_r _ [19, 9, 20, 21, 22, 23, 24, 7, 25, 26, 27, 28, 29, 30, 31, 32, 33, 34, 35, 36, 37, 38, 39, 40, 41, 42, 43, 44, 45, 46, 47, 48, 49, 50, 51, 52, 53, 54, 55, 56, 57, 58, 59, 60, 61, 62] (by decide +kernel) (by decide +kernel)
set_option maxRecDepth 20000 in
theorem gX4_bestFlowNoise_X4_errorOf : GoodIn wsX4_bestFlowNoise (wsV RX4 117 RX4 yX4_errorOf wsX4_errorOf) := goodIn_app (goodIn_of _ (by decide +kernel)) ggX4_bestFlowNoise_X4_errorOf
theorem dX4_bestFlowNoise_0 : decode cX4_bestFlowNoise 0 = .ok (.aload_n 0, 1) := by decide +kernel
theorem dX4_bestFlowNoise_1 : decode cX4_bestFlowNoise 1 = .ok (.invokevirtual 112, 3) := by decide +kernel
theorem dX4_bestFlowNoise_4 : decode cX4_bestFlowNoise 4 = .ok (.ifCond .ne 10, 3) := by decide +kernel
theorem dX4_bestFlowNoise_7 : decode cX4_bestFlowNoise 7 = .ok (.aload_n 0, 1) := by decide +kernel
theorem dX4_bestFlowNoise_8 : decode cX4_bestFlowNoise 8 = .ok (.ldc 116, 2) := by decide +kernel
theorem dX4_bestFlowNoise_10 : decode cX4_bestFlowNoise 10 = .ok (.invokevirtual 74, 3) := by decide +kernel
theorem dX4_bestFlowNoise_13 : decode cX4_bestFlowNoise 13 = .ok (.ireturn, 1) := by decide +kernel
theorem dX4_bestFlowNoise_14 : decode cX4_bestFlowNoise 14 = .ok (.ldc 27, 2) := by decide +kernel
theorem dX4_bestFlowNoise_16 : decode cX4_bestFlowNoise 16 = .ok (.istore_n 1, 1) := by decide +kernel
theorem dX4_bestFlowNoise_17 : decode cX4_bestFlowNoise 17 = .ok (.ldc2_w 121, 3) := by decide +kernel
theorem dX4_bestFlowNoise_20 : decode cX4_bestFlowNoise 20 = .ok (.lstore_n 2, 1) := by decide +kernel
theorem dX4_bestFlowNoise_21 : decode cX4_bestFlowNoise 21 = .ok (.iconst 0, 1) := by decide +kernel
theorem dX4_bestFlowNoise_22 : decode cX4_bestFlowNoise 22 = .ok (.istore 4, 2) := by decide +kernel
theorem dX4_bestFlowNoise_24 : decode cX4_bestFlowNoise 24 = .ok (.iconst 0, 1) := by decide +kernel
theorem dX4_bestFlowNoise_25 : decode cX4_bestFlowNoise 25 = .ok (.istore 5, 2) := by decide +kernel
theorem dX4_bestFlowNoise_27 : decode cX4_bestFlowNoise 27 = .ok (.iload 5, 2) := by decide +kernel
theorem dX4_bestFlowNoise_29 : decode cX4_bestFlowNoise 29 = .ok (.bipush 12, 2) := by decide +kernel
theorem dX4_bestFlowNoise_31 : decode cX4_bestFlowNoise 31 = .ok (.if_icmp .ge 52, 3) := by decide +kernel
theorem dX4_bestFlowNoise_34 : decode cX4_bestFlowNoise 34 = .ok (.aload_n 0, 1) := by decide +kernel
theorem dX4_bestFlowNoise_35 : decode cX4_bestFlowNoise 35 = .ok (.iload 4, 2) := by decide +kernel
theorem dX4_bestFlowNoise_37 : decode cX4_bestFlowNoise 37 = .ok (.invokevirtual 117, 3) := by decide +kernel
theorem dX4_bestFlowNoise_40 : decode cX4_bestFlowNoise 40 = .ok (.lstore 6, 2) := by decide +kernel
theorem dX4_bestFlowNoise_42 : decode cX4_bestFlowNoise 42 = .ok (.lload 6, 2) := by decide +kernel
theorem dX4_bestFlowNoise_44 : decode cX4_bestFlowNoise 44 = .ok (.lconst 0, 1) := by decide +kernel
theorem dX4_bestFlowNoise_45 : decode cX4_bestFlowNoise 45 = .ok (.lcmp, 1) := by decide +kernel
theorem dX4_bestFlowNoise_46 : decode cX4_bestFlowNoise 46 = .ok (.ifCond .lt 16, 3) := by decide +kernel
theorem dX4_bestFlowNoise_49 : decode cX4_bestFlowNoise 49 = .ok (.lload 6, 2) := by decide +kernel
theorem dX4_bestFlowNoise_51 : decode cX4_bestFlowNoise 51 = .ok (.lload_n 2, 1) := by decide +kernel
theorem dX4_bestFlowNoise_52 : decode cX4_bestFlowNoise 52 = .ok (.lcmp, 1) := by decide +kernel
theorem dX4_bestFlowNoise_53 : decode cX4_bestFlowNoise 53 = .ok (.ifCond .ge 9, 3) := by decide +kernel
theorem dX4_bestFlowNoise_56 : decode cX4_bestFlowNoise 56 = .ok (.iload 4, 2) := by decide +kernel
theorem dX4_bestFlowNoise_58 : decode cX4_bestFlowNoise 58 = .ok (.istore_n 1, 1) := by decide +kernel
theorem dX4_bestFlowNoise_59 : decode cX4_bestFlowNoise 59 = .ok (.lload 6, 2) := by decide +kernel
theorem dX4_bestFlowNoise_61 : decode cX4_bestFlowNoise 61 = .ok (.lstore_n 2, 1) := by decide +kernel
theorem dX4_bestFlowNoise_62 : decode cX4_bestFlowNoise 62 = .ok (.iload 4, 2) := by decide +kernel
theorem dX4_bestFlowNoise_64 : decode cX4_bestFlowNoise 64 = .ok (.ifCond .ne 7, 3) := by decide +kernel
theorem dX4_bestFlowNoise_67 : decode cX4_bestFlowNoise 67 = .ok (.iconst 1, 1) := by decide +kernel
theorem dX4_bestFlowNoise_68 : decode cX4_bestFlowNoise 68 = .ok (.goto 7, 3) := by decide +kernel
theorem dX4_bestFlowNoise_71 : decode cX4_bestFlowNoise 71 = .ok (.iconst 4, 1) := by decide +kernel
theorem dX4_bestFlowNoise_72 : decode cX4_bestFlowNoise 72 = .ok (.iload 4, 2) := by decide +kernel
theorem dX4_bestFlowNoise_74 : decode cX4_bestFlowNoise 74 = .ok (.imul, 1) := by decide +kernel
theorem dX4_bestFlowNoise_75 : decode cX4_bestFlowNoise 75 = .ok (.istore 4, 2) := by decide +kernel
theorem dX4_bestFlowNoise_77 : decode cX4_bestFlowNoise 77 = .ok (.iinc 5 1, 3) := by decide +kernel
theorem dX4_bestFlowNoise_80 : decode cX4_bestFlowNoise 80 = .ok (.goto (-53), 3) := by decide +kernel
theorem dX4_bestFlowNoise_83 : decode cX4_bestFlowNoise 83 = .ok (.iload_n 1, 1) := by decide +kernel
theorem dX4_bestFlowNoise_84 : decode cX4_bestFlowNoise 84 = .ok (.ireturn, 1) := by decide +kernel
set_option maxRecDepth 20000 in
theorem ggX4_undo_X4_fail : GoodIn wsX4_undo wsX4_fail := goodIn_r _ [9, 10, 11, 12, 13, 14, 15, 16, 17, 18, 19, 20] (by decide +kernel) (by decide +kernel)
set_option maxRecDepth 20000 in
theorem gX4_undo_X4_fail : GoodIn wsX4_undo (wsV RX4 74 RX4 yX4_fail wsX4_fail) := goodIn_app (goodIn_of _ (by decide +kernel)) ggX4_undo_X4_fail
theorem dX4_undo_0 : decode cX4_undo 0 = .ok (.aload_n 0, 1) := by decide +kernel
theorem dX4_undo_1 : decode cX4_undo 1 = .ok (.getfield 28, 3) := by decide +kernel
theorem dX4_undo_4 : decode cX4_undo 4 = .ok (.ifCond .ne 10, 3) := by decide +kernel
theorem dX4_undo_7 : decode cX4_undo 7 = .ok (.aload_n 0, 1) := by decide +kernel
theorem dX4_undo_8 : decode cX4_undo 8 = .ok (.ldc 116, 2) := by decide +kernel
theorem dX4_undo_10 : decode cX4_undo 10 = .ok (.invokevirtual 74, 3) := by decide +kernel
theorem dX4_undo_13 : decode cX4_undo 13 = .ok (.ireturn, 1) := by decide +kernel
theorem dX4_undo_14 : decode cX4_undo 14 = .ok (.aload_n 0, 1) := by decide +kernel
theorem dX4_undo_15 : decode cX4_undo 15 = .ok (.dup, 1) := by decide +kernel
theorem dX4_undo_16 : decode cX4_undo 16 = .ok (.getfield 28, 3) := by decide +kernel
theorem dX4_undo_19 : decode cX4_undo 19 = .ok (.iconst 1, 1) := by decide +kernel
theorem dX4_undo_20 : decode cX4_undo 20 = .ok (.isub, 1) := by decide +kernel
theorem dX4_undo_21 : decode cX4_undo 21 = .ok (.putfield 28, 3) := by decide +kernel
theorem dX4_undo_24 : decode cX4_undo 24 = .ok (.iconst 0, 1) := by decide +kernel
theorem dX4_undo_25 : decode cX4_undo 25 = .ok (.istore_n 1, 1) := by decide +kernel
theorem dX4_undo_26 : decode cX4_undo 26 = .ok (.iload_n 1, 1) := by decide +kernel
theorem dX4_undo_27 : decode cX4_undo 27 = .ok (.bipush 71, 2) := by decide +kernel
theorem dX4_undo_29 : decode cX4_undo 29 = .ok (.if_icmp .ge 29, 3) := by decide +kernel
theorem dX4_undo_32 : decode cX4_undo 32 = .ok (.aload_n 0, 1) := by decide +kernel
theorem dX4_undo_33 : decode cX4_undo 33 = .ok (.getfield 7, 3) := by decide +kernel
theorem dX4_undo_36 : decode cX4_undo 36 = .ok (.iload_n 1, 1) := by decide +kernel
theorem dX4_undo_37 : decode cX4_undo 37 = .ok (.aload_n 0, 1) := by decide +kernel
theorem dX4_undo_38 : decode cX4_undo 38 = .ok (.getfield 13, 3) := by decide +kernel
theorem dX4_undo_41 : decode cX4_undo 41 = .ok (.bipush 71, 2) := by decide +kernel
theorem dX4_undo_43 : decode cX4_undo 43 = .ok (.aload_n 0, 1) := by decide +kernel
theorem dX4_undo_44 : decode cX4_undo 44 = .ok (.getfield 28, 3) := by decide +kernel
theorem dX4_undo_47 : decode cX4_undo 47 = .ok (.imul, 1) := by decide +kernel
theorem dX4_undo_48 : decode cX4_undo 48 = .ok (.iload_n 1, 1) := by decide +kernel
theorem dX4_undo_49 : decode cX4_undo 49 = .ok (.iadd, 1) := by decide +kernel
theorem dX4_undo_50 : decode cX4_undo 50 = .ok (.iaload, 1) := by decide +kernel
theorem dX4_undo_51 : decode cX4_undo 51 = .ok (.iastore, 1) := by decide +kernel
theorem dX4_undo_52 : decode cX4_undo 52 = .ok (.iinc 1 1, 3) := by decide +kernel
theorem dX4_undo_55 : decode cX4_undo 55 = .ok (.goto (-29), 3) := by decide +kernel
theorem dX4_undo_58 : decode cX4_undo 58 = .ok (.aload_n 0, 1) := by decide +kernel
theorem dX4_undo_59 : decode cX4_undo 59 = .ok (.getfield 28, 3) := by decide +kernel
theorem dX4_undo_62 : decode cX4_undo 62 = .ok (.ireturn, 1) := by decide +kernel
set_option maxRecDepth 20000 in
theorem ggX4_errorCount_X4_in : GoodIn wsX4_errorCount wsX4_in := goodIn_r _ [6] (by decide +kernel) (by decide +kernel)
set_option maxRecDepth 20000 in
theorem gX4_errorCount_X4_in : GoodIn wsX4_errorCount (va_wsS RX4 68 yX4_in wsX4_in) := goodIn_app (goodIn_of _ (by decide +kernel)) ggX4_errorCount_X4_in
set_option maxRecDepth 20000 in
theorem ggX4_errorCount_X4_fail : GoodIn wsX4_errorCount wsX4_fail := goodIn_r _ [10, 1, 2, 11, 12, 13, 14, 15, 16, 17, 18, 19] (by decide +kernel) (by decide +kernel)
set_option maxRecDepth 20000 in
theorem gX4_errorCount_X4_fail : GoodIn wsX4_errorCount (wsV RX4 74 RX4 yX4_fail wsX4_fail) := goodIn_app (goodIn_of _ (by decide +kernel)) ggX4_errorCount_X4_fail
theorem dX4_errorCount_0 : decode cX4_errorCount 0 = .ok (.iload_n 1, 1) := by decide +kernel
theorem dX4_errorCount_1 : decode cX4_errorCount 1 = .ok (.iconst 0, 1) := by decide +kernel
theorem dX4_errorCount_2 : decode cX4_errorCount 2 = .ok (.iconst 2, 1) := by decide +kernel
theorem dX4_errorCount_3 : decode cX4_errorCount 3 = .ok (.invokestatic 68, 3) := by decide +kernel
theorem dX4_errorCount_6 : decode cX4_errorCount 6 = .ok (.ifCond .eq 12, 3) := by decide +kernel
theorem dX4_errorCount_9 : decode cX4_errorCount 9 = .ok (.aload_n 0, 1) := by decide +kernel
theorem dX4_errorCount_10 : decode cX4_errorCount 10 = .ok (.getfield 16, 3) := by decide +kernel
theorem dX4_errorCount_13 : decode cX4_errorCount 13 = .ok (.iload_n 1, 1) := by decide +kernel
theorem dX4_errorCount_14 : decode cX4_errorCount 14 = .ok (.iaload, 1) := by decide +kernel
theorem dX4_errorCount_15 : decode cX4_errorCount 15 = .ok (.goto 9, 3) := by decide +kernel
theorem dX4_errorCount_18 : decode cX4_errorCount 18 = .ok (.aload_n 0, 1) := by decide +kernel
theorem dX4_errorCount_19 : decode cX4_errorCount 19 = .ok (.ldc 26, 2) := by decide +kernel
theorem dX4_errorCount_21 : decode cX4_errorCount 21 = .ok (.invokevirtual 74, 3) := by decide +kernel
theorem dX4_errorCount_24 : decode cX4_errorCount 24 = .ok (.ireturn, 1) := by decide +kernel
theorem dX4_add_0 : decode cX4_add 0 = .ok (.aload_n 0, 1) := by decide +kernel
theorem dX4_add_1 : decode cX4_add 1 = .ok (.ldc2_w 123, 3) := by decide +kernel
theorem dX4_add_4 : decode cX4_add 4 = .ok (.aload_n 0, 1) := by decide +kernel
theorem dX4_add_5 : decode cX4_add 5 = .ok (.getfield 125, 3) := by decide +kernel
theorem dX4_add_8 : decode cX4_add 8 = .ok (.lmul, 1) := by decide +kernel
theorem dX4_add_9 : decode cX4_add 9 = .ok (.iload_n 1, 1) := by decide +kernel
theorem dX4_add_10 : decode cX4_add 10 = .ok (.i2l, 1) := by decide +kernel
theorem dX4_add_11 : decode cX4_add 11 = .ok (.ladd, 1) := by decide +kernel
theorem dX4_add_12 : decode cX4_add 12 = .ok (.putfield 125, 3) := by decide +kernel
theorem dX4_add_15 : decode cX4_add 15 = .ok (.return_, 1) := by decide +kernel
set_option maxRecDepth 20000 in
theorem ggX4_digest_X4_add : GoodIn wsX4_digest wsX4_add := goodIn_r _ [10, 11, 2, 12, 13, 14, 15, 16, 17, 18, 19, 20] (by decide +kernel) (by decide +kernel)
set_option maxRecDepth 20000 in
theorem gX4_digest_X4_add : GoodIn wsX4_digest (wsV RX4 130 RX4 yX4_add wsX4_add) := goodIn_app (goodIn_of _ (by decide +kernel)) ggX4_digest_X4_add
theorem dX4_digest_0 : decode cX4_digest 0 = .ok (.aload_n 0, 1) := by decide +kernel
theorem dX4_digest_1 : decode cX4_digest 1 = .ok (.ldc2_w 128, 3) := by decide +kernel
theorem dX4_digest_4 : decode cX4_digest 4 = .ok (.putfield 125, 3) := by decide +kernel
theorem dX4_digest_7 : decode cX4_digest 7 = .ok (.iconst 0, 1) := by decide +kernel
theorem dX4_digest_8 : decode cX4_digest 8 = .ok (.istore_n 1, 1) := by decide +kernel
theorem dX4_digest_9 : decode cX4_digest 9 = .ok (.iload_n 1, 1) := by decide +kernel
theorem dX4_digest_10 : decode cX4_digest 10 = .ok (.iconst 3, 1) := by decide +kernel
theorem dX4_digest_11 : decode cX4_digest 11 = .ok (.if_icmp .ge 19, 3) := by decide +kernel
theorem dX4_digest_14 : decode cX4_digest 14 = .ok (.aload_n 0, 1) := by decide +kernel
theorem dX4_digest_15 : decode cX4_digest 15 = .ok (.aload_n 0, 1) := by decide +kernel
theorem dX4_digest_16 : decode cX4_digest 16 = .ok (.getfield 16, 3) := by decide +kernel
theorem dX4_digest_19 : decode cX4_digest 19 = .ok (.iload_n 1, 1) := by decide +kernel
theorem dX4_digest_20 : decode cX4_digest 20 = .ok (.iaload, 1) := by decide +kernel
theorem dX4_digest_21 : decode cX4_digest 21 = .ok (.invokevirtual 130, 3) := by decide +kernel
theorem dX4_digest_24 : decode cX4_digest 24 = .ok (.iinc 1 1, 3) := by decide +kernel
theorem dX4_digest_27 : decode cX4_digest 27 = .ok (.goto (-18), 3) := by decide +kernel
theorem dX4_digest_30 : decode cX4_digest 30 = .ok (.aload_n 0, 1) := by decide +kernel
theorem dX4_digest_31 : decode cX4_digest 31 = .ok (.aload_n 0, 1) := by decide +kernel
theorem dX4_digest_32 : decode cX4_digest 32 = .ok (.getfield 28, 3) := by decide +kernel
theorem dX4_digest_35 : decode cX4_digest 35 = .ok (.invokevirtual 130, 3) := by decide +kernel
theorem dX4_digest_38 : decode cX4_digest 38 = .ok (.iconst 0, 1) := by decide +kernel
theorem dX4_digest_39 : decode cX4_digest 39 = .ok (.istore_n 1, 1) := by decide +kernel
theorem dX4_digest_40 : decode cX4_digest 40 = .ok (.iload_n 1, 1) := by decide +kernel
theorem dX4_digest_41 : decode cX4_digest 41 = .ok (.bipush 7, 2) := by decide +kernel
theorem dX4_digest_43 : decode cX4_digest 43 = .ok (.if_icmp .gt 19, 3) := by decide +kernel
theorem dX4_digest_46 : decode cX4_digest 46 = .ok (.aload_n 0, 1) := by decide +kernel
theorem dX4_digest_47 : decode cX4_digest 47 = .ok (.aload_n 0, 1) := by decide +kernel
theorem dX4_digest_48 : decode cX4_digest 48 = .ok (.getfield 7, 3) := by decide +kernel
theorem dX4_digest_51 : decode cX4_digest 51 = .ok (.iload_n 1, 1) := by decide +kernel
theorem dX4_digest_52 : decode cX4_digest 52 = .ok (.iaload, 1) := by decide +kernel
theorem dX4_digest_53 : decode cX4_digest 53 = .ok (.invokevirtual 130, 3) := by decide +kernel
theorem dX4_digest_56 : decode cX4_digest 56 = .ok (.iinc 1 1, 3) := by decide +kernel
theorem dX4_digest_59 : decode cX4_digest 59 = .ok (.goto (-19), 3) := by decide +kernel
theorem dX4_digest_62 : decode cX4_digest 62 = .ok (.iconst 0, 1) := by decide +kernel
theorem dX4_digest_63 : decode cX4_digest 63 = .ok (.istore_n 1, 1) := by decide +kernel
theorem dX4_digest_64 : decode cX4_digest 64 = .ok (.iload_n 1, 1) := by decide +kernel
theorem dX4_digest_65 : decode cX4_digest 65 = .ok (.iconst 4, 1) := by decide +kernel
theorem dX4_digest_66 : decode cX4_digest 66 = .ok (.if_icmp .ge 35, 3) := by decide +kernel
theorem dX4_digest_69 : decode cX4_digest 69 = .ok (.aload_n 0, 1) := by decide +kernel
theorem dX4_digest_70 : decode cX4_digest 70 = .ok (.aload_n 0, 1) := by decide +kernel
theorem dX4_digest_71 : decode cX4_digest 71 = .ok (.getfield 7, 3) := by decide +kernel
theorem dX4_digest_74 : decode cX4_digest 74 = .ok (.bipush 8, 2) := by decide +kernel
theorem dX4_digest_76 : decode cX4_digest 76 = .ok (.iload_n 1, 1) := by decide +kernel
theorem dX4_digest_77 : decode cX4_digest 77 = .ok (.iadd, 1) := by decide +kernel
theorem dX4_digest_78 : decode cX4_digest 78 = .ok (.iaload, 1) := by decide +kernel
theorem dX4_digest_79 : decode cX4_digest 79 = .ok (.invokevirtual 130, 3) := by decide +kernel
theorem dX4_digest_82 : decode cX4_digest 82 = .ok (.aload_n 0, 1) := by decide +kernel
theorem dX4_digest_83 : decode cX4_digest 83 = .ok (.aload_n 0, 1) := by decide +kernel
theorem dX4_digest_84 : decode cX4_digest 84 = .ok (.getfield 7, 3) := by decide +kernel
theorem dX4_digest_87 : decode cX4_digest 87 = .ok (.bipush 12, 2) := by decide +kernel
theorem dX4_digest_89 : decode cX4_digest 89 = .ok (.iload_n 1, 1) := by decide +kernel
theorem dX4_digest_90 : decode cX4_digest 90 = .ok (.iadd, 1) := by decide +kernel
theorem dX4_digest_91 : decode cX4_digest 91 = .ok (.iaload, 1) := by decide +kernel
theorem dX4_digest_92 : decode cX4_digest 92 = .ok (.invokevirtual 130, 3) := by decide +kernel
theorem dX4_digest_95 : decode cX4_digest 95 = .ok (.iinc 1 1, 3) := by decide +kernel
theorem dX4_digest_98 : decode cX4_digest 98 = .ok (.goto (-34), 3) := by decide +kernel
theorem dX4_digest_101 : decode cX4_digest 101 = .ok (.bipush 16, 2) := by decide +kernel
theorem dX4_digest_103 : decode cX4_digest 103 = .ok (.istore_n 1, 1) := by decide +kernel
theorem dX4_digest_104 : decode cX4_digest 104 = .ok (.iload_n 1, 1) := by decide +kernel
theorem dX4_digest_105 : decode cX4_digest 105 = .ok (.bipush 22, 2) := by decide +kernel
theorem dX4_digest_107 : decode cX4_digest 107 = .ok (.if_icmp .gt 19, 3) := by decide +kernel
theorem dX4_digest_110 : decode cX4_digest 110 = .ok (.aload_n 0, 1) := by decide +kernel
theorem dX4_digest_111 : decode cX4_digest 111 = .ok (.aload_n 0, 1) := by decide +kernel
theorem dX4_digest_112 : decode cX4_digest 112 = .ok (.getfield 7, 3) := by decide +kernel
theorem dX4_digest_115 : decode cX4_digest 115 = .ok (.iload_n 1, 1) := by decide +kernel
theorem dX4_digest_116 : decode cX4_digest 116 = .ok (.iaload, 1) := by decide +kernel
theorem dX4_digest_117 : decode cX4_digest 117 = .ok (.invokevirtual 130, 3) := by decide +kernel
theorem dX4_digest_120 : decode cX4_digest 120 = .ok (.iinc 1 1, 3) := by decide +kernel
theorem dX4_digest_123 : decode cX4_digest 123 = .ok (.goto (-19), 3) := by decide +kernel
theorem dX4_digest_126 : decode cX4_digest 126 = .ok (.iconst 0, 1) := by decide +kernel
theorem dX4_digest_127 : decode cX4_digest 127 = .ok (.istore_n 1, 1) := by decide +kernel
theorem dX4_digest_128 : decode cX4_digest 128 = .ok (.iload_n 1, 1) := by decide +kernel
theorem dX4_digest_129 : decode cX4_digest 129 = .ok (.iconst 2, 1) := by decide +kernel
theorem dX4_digest_130 : decode cX4_digest 130 = .ok (.aload_n 0, 1) := by decide +kernel
theorem dX4_digest_131 : decode cX4_digest 131 = .ok (.getfield 7, 3) := by decide +kernel
theorem dX4_digest_134 : decode cX4_digest 134 = .ok (.bipush 22, 2) := by decide +kernel
theorem dX4_digest_136 : decode cX4_digest 136 = .ok (.iaload, 1) := by decide +kernel
theorem dX4_digest_137 : decode cX4_digest 137 = .ok (.imul, 1) := by decide +kernel
theorem dX4_digest_138 : decode cX4_digest 138 = .ok (.if_icmp .ge 22, 3) := by decide +kernel
theorem dX4_digest_141 : decode cX4_digest 141 = .ok (.aload_n 0, 1) := by decide +kernel
theorem dX4_digest_142 : decode cX4_digest 142 = .ok (.aload_n 0, 1) := by decide +kernel
theorem dX4_digest_143 : decode cX4_digest 143 = .ok (.getfield 7, 3) := by decide +kernel
theorem dX4_digest_146 : decode cX4_digest 146 = .ok (.bipush 23, 2) := by decide +kernel
theorem dX4_digest_148 : decode cX4_digest 148 = .ok (.iload_n 1, 1) := by decide +kernel
theorem dX4_digest_149 : decode cX4_digest 149 = .ok (.iadd, 1) := by decide +kernel
theorem dX4_digest_150 : decode cX4_digest 150 = .ok (.iaload, 1) := by decide +kernel
theorem dX4_digest_151 : decode cX4_digest 151 = .ok (.invokevirtual 130, 3) := by decide +kernel
theorem dX4_digest_154 : decode cX4_digest 154 = .ok (.iinc 1 1, 3) := by decide +kernel
theorem dX4_digest_157 : decode cX4_digest 157 = .ok (.goto (-29), 3) := by decide +kernel
theorem dX4_digest_160 : decode cX4_digest 160 = .ok (.aload_n 0, 1) := by decide +kernel
theorem dX4_digest_161 : decode cX4_digest 161 = .ok (.getfield 125, 3) := by decide +kernel
theorem dX4_digest_164 : decode cX4_digest 164 = .ok (.lreturn, 1) := by decide +kernel
theorem dJ9_floorDiv_f86c9_0 : decode cJ9_floorDiv_f86c9 0 = .ok (.lload_n 0, 1) := by decide +kernel
theorem dJ9_floorDiv_f86c9_1 : decode cJ9_floorDiv_f86c9 1 = .ok (.lload_n 2, 1) := by decide +kernel
theorem dJ9_floorDiv_f86c9_2 : decode cJ9_floorDiv_f86c9 2 = .ok (.ldiv, 1) := by decide +kernel
theorem dJ9_floorDiv_f86c9_3 : decode cJ9_floorDiv_f86c9 3 = .ok (.lstore 4, 2) := by decide +kernel
theorem dJ9_floorDiv_f86c9_5 : decode cJ9_floorDiv_f86c9 5 = .ok (.lload_n 0, 1) := by decide +kernel
theorem dJ9_floorDiv_f86c9_6 : decode cJ9_floorDiv_f86c9 6 = .ok (.lload_n 2, 1) := by decide +kernel
theorem dJ9_floorDiv_f86c9_7 : decode cJ9_floorDiv_f86c9 7 = .ok (.lxor, 1) := by decide +kernel
theorem dJ9_floorDiv_f86c9_8 : decode cJ9_floorDiv_f86c9 8 = .ok (.lconst 0, 1) := by decide +kernel
theorem dJ9_floorDiv_f86c9_9 : decode cJ9_floorDiv_f86c9 9 = .ok (.lcmp, 1) := by decide +kernel
theorem dJ9_floorDiv_f86c9_10 : decode cJ9_floorDiv_f86c9 10 = .ok (.ifCond .ge 17, 3) := by decide +kernel
theorem dJ9_floorDiv_f86c9_13 : decode cJ9_floorDiv_f86c9 13 = .ok (.lload 4, 2) := by decide +kernel
theorem dJ9_floorDiv_f86c9_15 : decode cJ9_floorDiv_f86c9 15 = .ok (.lload_n 2, 1) := by decide +kernel
theorem dJ9_floorDiv_f86c9_16 : decode cJ9_floorDiv_f86c9 16 = .ok (.lmul, 1) := by decide +kernel
theorem dJ9_floorDiv_f86c9_17 : decode cJ9_floorDiv_f86c9 17 = .ok (.lload_n 0, 1) := by decide +kernel
theorem dJ9_floorDiv_f86c9_18 : decode cJ9_floorDiv_f86c9 18 = .ok (.lcmp, 1) := by decide +kernel
theorem dJ9_floorDiv_f86c9_19 : decode cJ9_floorDiv_f86c9 19 = .ok (.ifCond .eq 8, 3) := by decide +kernel
theorem dJ9_floorDiv_f86c9_22 : decode cJ9_floorDiv_f86c9 22 = .ok (.lload 4, 2) := by decide +kernel
theorem dJ9_floorDiv_f86c9_24 : decode cJ9_floorDiv_f86c9 24 = .ok (.lconst 1, 1) := by decide +kernel
theorem dJ9_floorDiv_f86c9_25 : decode cJ9_floorDiv_f86c9 25 = .ok (.lsub, 1) := by decide +kernel
theorem dJ9_floorDiv_f86c9_26 : decode cJ9_floorDiv_f86c9 26 = .ok (.lreturn, 1) := by decide +kernel
theorem dJ9_floorDiv_f86c9_27 : decode cJ9_floorDiv_f86c9 27 = .ok (.lload 4, 2) := by decide +kernel
theorem dJ9_floorDiv_f86c9_29 : decode cJ9_floorDiv_f86c9 29 = .ok (.lreturn, 1) := by decide +kernel
theorem dJ9_abs_067f4_0 : decode cJ9_abs_067f4 0 = .ok (.lload_n 0, 1) := by decide +kernel
theorem dJ9_abs_067f4_1 : decode cJ9_abs_067f4 1 = .ok (.lconst 0, 1) := by decide +kernel
theorem dJ9_abs_067f4_2 : decode cJ9_abs_067f4 2 = .ok (.lcmp, 1) := by decide +kernel
theorem dJ9_abs_067f4_3 : decode cJ9_abs_067f4 3 = .ok (.ifCond .ge 8, 3) := by decide +kernel
theorem dJ9_abs_067f4_6 : decode cJ9_abs_067f4 6 = .ok (.lload_n 0, 1) := by decide +kernel
theorem dJ9_abs_067f4_7 : decode cJ9_abs_067f4 7 = .ok (.lneg, 1) := by decide +kernel
theorem dJ9_abs_067f4_8 : decode cJ9_abs_067f4 8 = .ok (.goto 4, 3) := by decide +kernel
theorem dJ9_abs_067f4_11 : decode cJ9_abs_067f4 11 = .ok (.lload_n 0, 1) := by decide +kernel
theorem dJ9_abs_067f4_12 : decode cJ9_abs_067f4 12 = .ok (.lreturn, 1) := by decide +kernel
theorem dJ9_max_f86c9_0 : decode cJ9_max_f86c9 0 = .ok (.lload_n 0, 1) := by decide +kernel
theorem dJ9_max_f86c9_1 : decode cJ9_max_f86c9 1 = .ok (.lload_n 2, 1) := by decide +kernel
theorem dJ9_max_f86c9_2 : decode cJ9_max_f86c9 2 = .ok (.lcmp, 1) := by decide +kernel
theorem dJ9_max_f86c9_3 : decode cJ9_max_f86c9 3 = .ok (.ifCond .lt 7, 3) := by decide +kernel
theorem dJ9_max_f86c9_6 : decode cJ9_max_f86c9 6 = .ok (.lload_n 0, 1) := by decide +kernel
theorem dJ9_max_f86c9_7 : decode cJ9_max_f86c9 7 = .ok (.goto 4, 3) := by decide +kernel
theorem dJ9_max_f86c9_10 : decode cJ9_max_f86c9 10 = .ok (.lload_n 2, 1) := by decide +kernel
theorem dJ9_max_f86c9_11 : decode cJ9_max_f86c9 11 = .ok (.lreturn, 1) := by decide +kernel
set_option maxRecDepth 20000 in
theorem ggL_law_X3_init : GoodIn wsL_law wsX3_init := goodIn_r _ [8, 9, 10, 11, 12, 13, 14, 15, 16, 17, 18, 19, 20, 21, 22, 23, 24, 25, 26, 27, 28, 29, 30, 31, 32, 33, 34, 35, 36, 37, 38, 39, 40, 41, 42, 43, 44, 45, 46, 47, 48, 49, 50, 51, 52, 53, 54, 55, 56, 57, 58, 59, 530, 531, 532, 533, 534, 535, 536, 537, 538, 539, 516, 517, 518, 519, 520, 540, 541, 542, 543, 544, 545, 546, 547, 548, 549, 550] (by decide +kernel) (by decide +kernel)
set_option maxRecDepth 20000 in
theorem gL_law_X3_init : GoodIn wsL_law (wsX3_init) := ggL_law_X3_init
set_option maxRecDepth 20000 in
theorem ggL_law_X4_init : GoodIn wsL_law wsX4_init := goodIn_r _ [62, 63, 10, 11, 18, 64, 65, 66, 67, 68, 69, 70, 71, 5, 72, 73, 521, 522, 523, 524, 525, 526, 527, 528, 529] (by decide +kernel) (by decide +kernel)
set_option maxRecDepth 20000 in
theorem gL_law_X4_init : GoodIn wsL_law (wsX4_init) := ggL_law_X4_init
set_option maxRecDepth 20000 in
theorem ggL_law_X3_reset : GoodIn wsL_law wsX3_reset := goodIn_r _ [77, 78, 79, 80, 81, 82, 15, 83, 84, 2, 85, 86, 87, 88, 89, 19, 90, 91, 92, 93, 17, 16, 94, 95, 96, 97, 98, 14, 99, 100, 28, 29, 30, 31, 32, 33, 34, 35, 36, 40, 101, 22, 102, 103, 44, 45, 47, 48, 49, 51, 52, 53, 104, 105, 106, 39, 107, 108, 57, 58, 59, 109, 110, 111, 50, 516, 517, 518, 519, 520, 530, 531, 532, 533, 534, 535, 536, 537, 538, 539, 548, 549, 550, 540, 541, 542, 543, 544, 545, 546, 547] (by decide +kernel) (by decide +kernel)
set_option maxRecDepth 20000 in
theorem gL_law_X3_reset : GoodIn wsL_law (wsV RL 13 RX3 yX3_reset wsX3_reset) := goodIn_app (goodIn_of _ (by decide +kernel)) ggL_law_X3_reset
set_option maxRecDepth 20000 in
theorem ggL_law_X4_reset : GoodIn wsL_law wsX4_reset := goodIn_r _ [115, 116, 117, 118, 119, 120, 64, 121, 122, 5, 123, 124, 125, 126, 127, 66, 128, 129, 130, 131, 132, 65, 69, 70, 71, 72, 73, 521, 522, 523, 524, 525, 526, 527, 528, 529] (by decide +kernel) (by decide +kernel)
set_option maxRecDepth 20000 in
theorem gL_law_X4_reset : GoodIn wsL_law (wsV RL 17 RX4 yX4_reset wsX4_reset) := goodIn_app (goodIn_of _ (by decide +kernel)) ggL_law_X4_reset
set_option maxRecDepth 20000 in
theorem ggL_law_X3_setProcessNoise : GoodIn wsL_law wsX3_setProcessNoise := goodIn_r _ [136, 81, 82, 15, 83, 84, 2, 85, 86, 87, 88, 89, 19, 90, 91, 92, 93, 17, 16, 94, 95, 96, 97, 98, 14, 99, 100, 28, 29, 30, 31, 32, 33, 34, 35, 36, 40, 101, 22, 102, 103, 44, 45, 47, 48, 49, 51, 52, 53, 104, 105, 106, 39, 107, 108, 57, 58, 59, 516, 517, 518, 519, 520, 530, 531, 532, 533, 534, 535, 536, 537, 538, 539, 540, 541, 542, 543, 544, 545, 546, 547, 548, 549, 550] (by decide +kernel) (by decide +kernel)
set_option maxRecDepth 20000 in
theorem gL_law_X3_setProcessNoise : GoodIn wsL_law (wsV RL 18 RX3 yX3_setProcessNoise wsX3_setProcessNoise) := goodIn_app (goodIn_of _ (by decide +kernel)) ggL_law_X3_setProcessNoise
set_option maxRecDepth 20000 in
theorem ggL_law_X4_setProcessNoise : GoodIn wsL_law wsX4_setProcessNoise := goodIn_r _ [140, 119, 120, 64, 121, 122, 5, 123, 124, 125, 126, 127, 66, 128, 129, 130, 131, 132, 65, 521, 522, 523, 524, 525, 526, 527, 528, 529] (by decide +kernel) (by decide +kernel)
set_option maxRecDepth 20000 in
theorem gL_law_X4_setProcessNoise : GoodIn wsL_law (wsV RL 22 RX4 yX4_setProcessNoise wsX4_setProcessNoise) := goodIn_app (goodIn_of _ (by decide +kernel)) ggL_law_X4_setProcessNoise
set_option maxRecDepth 20000 in
theorem ggL_law_X3_setSensor : GoodIn wsL_law wsX3_setSensor := goodIn_r _ [144, 79, 82, 15, 145, 146, 2, 147, 83, 84, 85, 148, 149, 150, 86, 87, 88, 89, 19, 90, 91, 92, 93, 17, 16, 94, 95, 96, 97, 98, 14, 99, 100, 28, 29, 30, 31, 32, 33, 34, 35, 36, 40, 101, 22, 102, 103, 44, 45, 47, 48, 49, 51, 52, 53, 104, 105, 106, 39, 107, 108, 57, 58, 59, 516, 517, 518, 519, 520, 530, 531, 532, 533, 534, 535, 536, 537, 538, 539, 540, 541, 542, 543, 544, 545, 546, 547, 548, 549, 550] (by decide +kernel) (by decide +kernel)
set_option maxRecDepth 20000 in
theorem gL_law_X3_setSensor : GoodIn wsL_law (wsV RL 23 RX3 yX3_setSensor wsX3_setSensor) := goodIn_app (goodIn_of _ (by decide +kernel)) ggL_law_X3_setSensor
set_option maxRecDepth 20000 in
theorem ggL_law_X4_setSensor : GoodIn wsL_law wsX4_setSensor := goodIn_r _ [154, 117, 120, 64, 155, 156, 5, 157, 121, 122, 123, 124, 125, 126, 127, 66, 128, 129, 130, 131, 132, 65, 521, 522, 523, 524, 525, 526, 527, 528, 529] (by decide +kernel) (by decide +kernel)
set_option maxRecDepth 20000 in
theorem gL_law_X4_setSensor : GoodIn wsL_law (wsV RL 27 RX4 yX4_setSensor wsX4_setSensor) := goodIn_app (goodIn_of _ (by decide +kernel)) ggL_law_X4_setSensor
set_option maxRecDepth 20000 in
theorem ggL_law_X3_setGate : GoodIn wsL_law wsX3_setGate := goodIn_r _ [161, 82, 15, 83, 84, 2, 85, 86, 87, 88, 89, 19, 90, 91, 92, 93, 17, 16, 94, 95, 96, 97, 98, 14, 99, 100, 28, 29, 30, 31, 32, 33, 34, 35, 36, 40, 101, 22, 102, 103, 44, 45, 47, 48, 49, 51, 52, 53, 104, 105, 106, 39, 107, 108, 57, 58, 59, 516, 517, 518, 519, 520, 530, 531, 532, 533, 534, 535, 536, 537, 538, 539, 540, 541, 542, 543, 544, 545, 546, 547, 548, 549, 550] (by decide +kernel) (by decide +kernel)
set_option maxRecDepth 20000 in
theorem gL_law_X3_setGate : GoodIn wsL_law (wsV RL 28 RX3 yX3_setGate wsX3_setGate) := goodIn_app (goodIn_of _ (by decide +kernel)) ggL_law_X3_setGate
set_option maxRecDepth 20000 in
theorem ggL_law_X4_setGate : GoodIn wsL_law wsX4_setGate := goodIn_r _ [165, 120, 64, 121, 122, 5, 123, 124, 125, 126, 127, 66, 128, 129, 130, 131, 132, 65, 521, 522, 523, 524, 525, 526, 527, 528, 529] (by decide +kernel) (by decide +kernel)
set_option maxRecDepth 20000 in
theorem gL_law_X4_setGate : GoodIn wsL_law (wsV RL 32 RX4 yX4_setGate wsX4_setGate) := goodIn_app (goodIn_of _ (by decide +kernel)) ggL_law_X4_setGate
set_option maxRecDepth 20000 in
theorem ggL_law_X3_predict : GoodIn wsL_law wsX3_predict := goodIn_r _ [169, 80, 81, 82, 23, 15, 170, 83, 84, 2, 85, 86, 87, 88, 89, 19, 101, 22, 102, 103, 44, 45, 47, 48, 49, 51, 52, 53, 171, 172, 173, 174, 175, 176, 177, 178, 179, 180, 181, 182, 183, 184, 185, 186, 90, 91, 92, 93, 17, 16, 94, 95, 96, 97, 98, 14, 99, 100, 28, 29, 30, 31, 32, 33, 34, 35, 36, 40, 104, 105, 106, 39, 107, 108, 57, 58, 59, 187, 188, 189, 190, 191, 192, 193, 516, 517, 518, 519, 520, 530, 531, 532, 533, 534, 535, 536, 537, 538, 539, 540, 541, 542, 543, 544, 545, 546, 547, 548, 549, 550] (by decide +kernel) (by decide +kernel)
set_option maxRecDepth 20000 in
theorem gL_law_X3_predict : GoodIn wsL_law (wsV RL 33 RX3 yX3_predict wsX3_predict) := goodIn_app (goodIn_of _ (by decide +kernel)) ggL_law_X3_predict
set_option maxRecDepth 20000 in
theorem ggL_law_X4_predict : GoodIn wsL_law wsX4_predict := goodIn_r _ [197, 118, 119, 120, 64, 198, 121, 122, 5, 123, 124, 125, 126, 127, 66, 199, 200, 201, 202, 68, 203, 204, 205, 206, 207, 208, 209, 210, 211, 212, 128, 129, 130, 131, 132, 65, 213, 214, 215, 216, 217, 218, 219, 220, 521, 522, 523, 524, 525, 526, 527, 528, 529] (by decide +kernel) (by decide +kernel)
set_option maxRecDepth 20000 in
theorem gL_law_X4_predict : GoodIn wsL_law (wsV RL 36 RX4 yX4_predict wsX4_predict) := goodIn_app (goodIn_of _ (by decide +kernel)) ggL_law_X4_predict
set_option maxRecDepth 20000 in
theorem ggL_law_X3_correct : GoodIn wsL_law wsX3_correct := goodIn_r _ [224, 78, 79, 82, 23, 15, 170, 145, 146, 2, 147, 83, 84, 85, 86, 87, 88, 89, 19, 101, 22, 102, 103, 44, 45, 47, 48, 49, 51, 52, 53, 225, 226, 227, 46, 228, 229, 230, 231, 232, 233, 234, 235, 236, 237, 238, 239, 240, 183, 184, 185, 186, 241, 242, 243, 175, 176, 177, 178, 179, 180, 181, 182, 90, 91, 92, 93, 17, 16, 94, 95, 96, 97, 98, 14, 99, 100, 28, 29, 30, 31, 32, 33, 34, 35, 36, 40, 104, 105, 106, 39, 107, 108, 57, 58, 59, 187, 188, 189, 190, 191, 192, 193, 516, 517, 518, 519, 520, 530, 531, 532, 533, 534, 535, 536, 537, 538, 539, 540, 541, 542, 543, 544, 545, 546, 547, 548, 549, 550] (by decide +kernel) (by decide +kernel)
set_option maxRecDepth 20000 in
theorem gL_law_X3_correct : GoodIn wsL_law (wsV RL 37 RX3 yX3_correct wsX3_correct) := goodIn_app (goodIn_of _ (by decide +kernel)) ggL_law_X3_correct
set_option maxRecDepth 20000 in
theorem ggL_law_X4_correct : GoodIn wsL_law wsX4_correct := goodIn_r _ [247, 116, 117, 120, 64, 198, 248, 249, 250, 155, 156, 5, 157, 121, 122, 123, 124, 125, 126, 127, 66, 199, 200, 201, 202, 68, 251, 252, 253, 254, 255, 256, 257, 258, 207, 259, 260, 261, 208, 209, 210, 211, 212, 262, 263, 264, 265, 128, 129, 130, 131, 132, 65, 213, 214, 215, 216, 217, 218, 219, 220, 521, 522, 523, 524, 525, 526, 527, 528, 529] (by decide +kernel) (by decide +kernel)
set_option maxRecDepth 20000 in
theorem gL_law_X4_correct : GoodIn wsL_law (wsV RL 40 RX4 yX4_correct wsX4_correct) := goodIn_app (goodIn_of _ (by decide +kernel)) ggL_law_X4_correct
set_option maxRecDepth 20000 in
theorem ggL_law_X3_miss : GoodIn wsL_law wsX3_miss := goodIn_r _ [269, 82, 15, 145, 146, 2, 147, 83, 84, 85, 86, 87, 88, 89, 19, 90, 91, 92, 93, 17, 16, 94, 95, 96, 97, 98, 14, 99, 100, 28, 29, 30, 31, 32, 33, 34, 35, 36, 40, 101, 22, 102, 103, 44, 45, 47, 48, 49, 51, 52, 53, 104, 105, 106, 39, 107, 108, 57, 58, 59, 516, 517, 518, 519, 520, 530, 531, 532, 533, 534, 535, 536, 537, 538, 539, 540, 541, 542, 543, 544, 545, 546, 547, 548, 549, 550] (by decide +kernel) (by decide +kernel)
set_option maxRecDepth 20000 in
theorem gL_law_X3_miss : GoodIn wsL_law (wsV RL 41 RX3 yX3_miss wsX3_miss) := goodIn_app (goodIn_of _ (by decide +kernel)) ggL_law_X3_miss
set_option maxRecDepth 20000 in
theorem ggL_law_X4_miss : GoodIn wsL_law wsX4_miss := goodIn_r _ [273, 120, 64, 155, 156, 5, 157, 121, 122, 123, 124, 125, 126, 127, 66, 128, 129, 130, 131, 132, 65, 521, 522, 523, 524, 525, 526, 527, 528, 529] (by decide +kernel) (by decide +kernel)
set_option maxRecDepth 20000 in
theorem gL_law_X4_miss : GoodIn wsL_law (wsV RL 44 RX4 yX4_miss wsX4_miss) := goodIn_app (goodIn_of _ (by decide +kernel)) ggL_law_X4_miss
set_option maxRecDepth 20000 in
theorem ggL_law_X3_level : GoodIn wsL_law wsX3_level := goodIn_r _ [277, 15, 516, 517, 518, 519, 520, 530, 531, 532, 533, 534, 535, 536, 537, 538, 539, 540, 541, 542, 543, 544, 545, 546, 547] (by decide +kernel) (by decide +kernel)
set_option maxRecDepth 20000 in
theorem gL_law_X3_level : GoodIn wsL_law (wsV RL 45 RX3 yX3_level wsX3_level) := goodIn_app (goodIn_of _ (by decide +kernel)) ggL_law_X3_level
set_option maxRecDepth 20000 in
theorem ggL_law_X4_level : GoodIn wsL_law wsX4_level := goodIn_r _ [281, 64, 521, 522, 523, 524, 525, 526, 527, 528, 529] (by decide +kernel) (by decide +kernel)
set_option maxRecDepth 20000 in
theorem gL_law_X4_level : GoodIn wsL_law (wsV RL 49 RX4 yX4_level wsX4_level) := goodIn_app (goodIn_of _ (by decide +kernel)) ggL_law_X4_level
set_option maxRecDepth 20000 in
theorem ggL_law_X3_flow : GoodIn wsL_law wsX3_flow := goodIn_r _ [285, 15, 516, 517, 518, 519, 520, 530, 531, 532, 533, 534, 535, 536, 537, 538, 539, 540, 541, 542, 543, 544, 545, 546, 547] (by decide +kernel) (by decide +kernel)
set_option maxRecDepth 20000 in
theorem gL_law_X3_flow : GoodIn wsL_law (wsV RL 50 RX3 yX3_flow wsX3_flow) := goodIn_app (goodIn_of _ (by decide +kernel)) ggL_law_X3_flow
set_option maxRecDepth 20000 in
theorem ggL_law_X4_flow : GoodIn wsL_law wsX4_flow := goodIn_r _ [289, 64, 521, 522, 523, 524, 525, 526, 527, 528, 529] (by decide +kernel) (by decide +kernel)
set_option maxRecDepth 20000 in
theorem gL_law_X4_flow : GoodIn wsL_law (wsV RL 53 RX4 yX4_flow wsX4_flow) := goodIn_app (goodIn_of _ (by decide +kernel)) ggL_law_X4_flow
set_option maxRecDepth 20000 in
theorem ggL_law_X3_levelVariance : GoodIn wsL_law wsX3_levelVariance := goodIn_r _ [293, 15, 516, 517, 518, 519, 520, 530, 531, 532, 533, 534, 535, 536, 537, 538, 539, 540, 541, 542, 543, 544, 545, 546, 547] (by decide +kernel) (by decide +kernel)
set_option maxRecDepth 20000 in
theorem gL_law_X3_levelVariance : GoodIn wsL_law (wsV RL 54 RX3 yX3_levelVariance wsX3_levelVariance) := goodIn_app (goodIn_of _ (by decide +kernel)) ggL_law_X3_levelVariance
set_option maxRecDepth 20000 in
theorem ggL_law_X4_levelVariance : GoodIn wsL_law wsX4_levelVariance := goodIn_r _ [297, 64, 521, 522, 523, 524, 525, 526, 527, 528, 529] (by decide +kernel) (by decide +kernel)
set_option maxRecDepth 20000 in
theorem gL_law_X4_levelVariance : GoodIn wsL_law (wsV RL 57 RX4 yX4_levelVariance wsX4_levelVariance) := goodIn_app (goodIn_of _ (by decide +kernel)) ggL_law_X4_levelVariance
set_option maxRecDepth 20000 in
theorem ggL_law_X3_covariance : GoodIn wsL_law wsX3_covariance := goodIn_r _ [301, 15, 516, 517, 518, 519, 520, 530, 531, 532, 533, 534, 535, 536, 537, 538, 539, 540, 541, 542, 543, 544, 545, 546, 547] (by decide +kernel) (by decide +kernel)
set_option maxRecDepth 20000 in
theorem gL_law_X3_covariance : GoodIn wsL_law (wsV RL 58 RX3 yX3_covariance wsX3_covariance) := goodIn_app (goodIn_of _ (by decide +kernel)) ggL_law_X3_covariance
set_option maxRecDepth 20000 in
theorem ggL_law_X4_covariance : GoodIn wsL_law wsX4_covariance := goodIn_r _ [305, 64, 521, 522, 523, 524, 525, 526, 527, 528, 529] (by decide +kernel) (by decide +kernel)
set_option maxRecDepth 20000 in
theorem gL_law_X4_covariance : GoodIn wsL_law (wsV RL 61 RX4 yX4_covariance wsX4_covariance) := goodIn_app (goodIn_of _ (by decide +kernel)) ggL_law_X4_covariance
set_option maxRecDepth 20000 in
theorem ggL_law_X3_flowVariance : GoodIn wsL_law wsX3_flowVariance := goodIn_r _ [309, 15, 516, 517, 518, 519, 520, 530, 531, 532, 533, 534, 535, 536, 537, 538, 539, 540, 541, 542, 543, 544, 545, 546, 547] (by decide +kernel) (by decide +kernel)
set_option maxRecDepth 20000 in
theorem gL_law_X3_flowVariance : GoodIn wsL_law (wsV RL 62 RX3 yX3_flowVariance wsX3_flowVariance) := goodIn_app (goodIn_of _ (by decide +kernel)) ggL_law_X3_flowVariance
set_option maxRecDepth 20000 in
theorem ggL_law_X4_flowVariance : GoodIn wsL_law wsX4_flowVariance := goodIn_r _ [313, 64, 521, 522, 523, 524, 525, 526, 527, 528, 529] (by decide +kernel) (by decide +kernel)
set_option maxRecDepth 20000 in
theorem gL_law_X4_flowVariance : GoodIn wsL_law (wsV RL 65 RX4 yX4_flowVariance wsX4_flowVariance) := goodIn_app (goodIn_of _ (by decide +kernel)) ggL_law_X4_flowVariance
set_option maxRecDepth 20000 in
theorem ggL_law_X3_innovation : GoodIn wsL_law wsX3_innovation := goodIn_r _ [317, 15, 516, 517, 518, 519, 520, 530, 531, 532, 533, 534, 535, 536, 537, 538, 539, 540, 541, 542, 543, 544, 545, 546, 547] (by decide +kernel) (by decide +kernel)
set_option maxRecDepth 20000 in
theorem gL_law_X3_innovation : GoodIn wsL_law (wsV RL 66 RX3 yX3_innovation wsX3_innovation) := goodIn_app (goodIn_of _ (by decide +kernel)) ggL_law_X3_innovation
set_option maxRecDepth 20000 in
theorem ggL_law_X4_innovation : GoodIn wsL_law wsX4_innovation := goodIn_r _ [321, 64, 521, 522, 523, 524, 525, 526, 527, 528, 529] (by decide +kernel) (by decide +kernel)
set_option maxRecDepth 20000 in
theorem gL_law_X4_innovation : GoodIn wsL_law (wsV RL 69 RX4 yX4_innovation wsX4_innovation) := goodIn_app (goodIn_of _ (by decide +kernel)) ggL_law_X4_innovation
set_option maxRecDepth 20000 in
theorem ggL_law_X3_levelGain : GoodIn wsL_law wsX3_levelGain := goodIn_r _ [325, 15, 516, 517, 518, 519, 520, 530, 531, 532, 533, 534, 535, 536, 537, 538, 539, 540, 541, 542, 543, 544, 545, 546, 547] (by decide +kernel) (by decide +kernel)
set_option maxRecDepth 20000 in
theorem gL_law_X3_levelGain : GoodIn wsL_law (wsV RL 70 RX3 yX3_levelGain wsX3_levelGain) := goodIn_app (goodIn_of _ (by decide +kernel)) ggL_law_X3_levelGain
set_option maxRecDepth 20000 in
theorem ggL_law_X4_levelGain : GoodIn wsL_law wsX4_levelGain := goodIn_r _ [329, 64, 521, 522, 523, 524, 525, 526, 527, 528, 529] (by decide +kernel) (by decide +kernel)
set_option maxRecDepth 20000 in
theorem gL_law_X4_levelGain : GoodIn wsL_law (wsV RL 73 RX4 yX4_levelGain wsX4_levelGain) := goodIn_app (goodIn_of _ (by decide +kernel)) ggL_law_X4_levelGain
set_option maxRecDepth 20000 in
theorem ggL_law_X3_flowGain : GoodIn wsL_law wsX3_flowGain := goodIn_r _ [333, 15, 516, 517, 518, 519, 520, 530, 531, 532, 533, 534, 535, 536, 537, 538, 539, 540, 541, 542, 543, 544, 545, 546, 547] (by decide +kernel) (by decide +kernel)
set_option maxRecDepth 20000 in
theorem gL_law_X3_flowGain : GoodIn wsL_law (wsV RL 74 RX3 yX3_flowGain wsX3_flowGain) := goodIn_app (goodIn_of _ (by decide +kernel)) ggL_law_X3_flowGain
set_option maxRecDepth 20000 in
theorem ggL_law_X4_flowGain : GoodIn wsL_law wsX4_flowGain := goodIn_r _ [337, 64, 521, 522, 523, 524, 525, 526, 527, 528, 529] (by decide +kernel) (by decide +kernel)
set_option maxRecDepth 20000 in
theorem gL_law_X4_flowGain : GoodIn wsL_law (wsV RL 77 RX4 yX4_flowGain wsX4_flowGain) := goodIn_app (goodIn_of _ (by decide +kernel)) ggL_law_X4_flowGain
set_option maxRecDepth 20000 in
theorem ggL_law_X3_accepted : GoodIn wsL_law wsX3_accepted := goodIn_r _ [341, 15, 516, 517, 518, 519, 520, 530, 531, 532, 533, 534, 535, 536, 537, 538, 539] (by decide +kernel) (by decide +kernel)
set_option maxRecDepth 20000 in
theorem gL_law_X3_accepted : GoodIn wsL_law (wsV RL 78 RX3 yX3_accepted wsX3_accepted) := goodIn_app (goodIn_of _ (by decide +kernel)) ggL_law_X3_accepted
set_option maxRecDepth 20000 in
theorem ggL_law_X4_accepted : GoodIn wsL_law wsX4_accepted := goodIn_r _ [345, 64, 521, 522, 523, 524, 525, 526, 527, 528, 529] (by decide +kernel) (by decide +kernel)
set_option maxRecDepth 20000 in
theorem gL_law_X4_accepted : GoodIn wsL_law (wsV RL 81 RX4 yX4_accepted wsX4_accepted) := goodIn_app (goodIn_of _ (by decide +kernel)) ggL_law_X4_accepted
set_option maxRecDepth 20000 in
theorem ggL_law_X3_rejected : GoodIn wsL_law wsX3_rejected := goodIn_r _ [349, 15, 516, 517, 518, 519, 520, 530, 531, 532, 533, 534, 535, 536, 537, 538, 539] (by decide +kernel) (by decide +kernel)
set_option maxRecDepth 20000 in
theorem gL_law_X3_rejected : GoodIn wsL_law (wsV RL 82 RX3 yX3_rejected wsX3_rejected) := goodIn_app (goodIn_of _ (by decide +kernel)) ggL_law_X3_rejected
