set_option maxRecDepth 20000 in
theorem gX3_init_X2_init_n9 : GoodIn wsX3_init (wsX2_init) := ggX3_init_X2_init
set_option maxRecDepth 20000 in
theorem ggX3_init_X0_init : GoodIn wsX3_init wsX0_init := goodIn_r _ [34, 35, 2, 3, 36, 37, 38, 39, 40, 41, 42, 43, 44, 45, 67, 68, 69, 70, 71, 72, 73, 74] (by decide +kernel) (by decide +kernel)
set_option maxRecDepth 20000 in
theorem gX3_init_X0_init_n30 : GoodIn wsX3_init (wsX0_init) := ggX3_init_X0_init
theorem dX3_init_0 : decode cX3_init 0 = .ok (.aload_n 0, 1) := by decide +kernel
theorem dX3_init_1 : decode cX3_init 1 = .ok (.invokespecial 1, 3) := by decide +kernel
theorem dX3_init_4 : decode cX3_init 4 = .ok (.aload_n 0, 1) := by decide +kernel
theorem dX3_init_5 : decode cX3_init 5 = .ok (.new 7, 3) := by decide +kernel
theorem dX3_init_8 : decode cX3_init 8 = .ok (.dup, 1) := by decide +kernel
theorem dX3_init_9 : decode cX3_init 9 = .ok (.invokespecial 9, 3) := by decide +kernel
theorem dX3_init_12 : decode cX3_init 12 = .ok (.putfield 10, 3) := by decide +kernel
theorem dX3_init_15 : decode cX3_init 15 = .ok (.aload_n 0, 1) := by decide +kernel
theorem dX3_init_16 : decode cX3_init 16 = .ok (.iconst 4, 1) := by decide +kernel
theorem dX3_init_17 : decode cX3_init 17 = .ok (.anewarray 7, 3) := by decide +kernel
theorem dX3_init_20 : decode cX3_init 20 = .ok (.putfield 16, 3) := by decide +kernel
theorem dX3_init_23 : decode cX3_init 23 = .ok (.aload_n 0, 1) := by decide +kernel
theorem dX3_init_24 : decode cX3_init 24 = .ok (.iconst 0, 1) := by decide +kernel
theorem dX3_init_25 : decode cX3_init 25 = .ok (.putfield 20, 3) := by decide +kernel
theorem dX3_init_28 : decode cX3_init 28 = .ok (.aload_n 0, 1) := by decide +kernel
theorem dX3_init_29 : decode cX3_init 29 = .ok (.iconst 3, 1) := by decide +kernel
theorem dX3_init_30 : decode cX3_init 30 = .ok (.newarray .int, 2) := by decide +kernel
theorem dX3_init_32 : decode cX3_init 32 = .ok (.putfield 24, 3) := by decide +kernel
theorem dX3_init_35 : decode cX3_init 35 = .ok (.aload_n 0, 1) := by decide +kernel
theorem dX3_init_36 : decode cX3_init 36 = .ok (.new 28, 3) := by decide +kernel
theorem dX3_init_39 : decode cX3_init 39 = .ok (.dup, 1) := by decide +kernel
theorem dX3_init_40 : decode cX3_init 40 = .ok (.invokespecial 30, 3) := by decide +kernel
theorem dX3_init_43 : decode cX3_init 43 = .ok (.putfield 31, 3) := by decide +kernel
theorem dX3_init_46 : decode cX3_init 46 = .ok (.iconst 0, 1) := by decide +kernel
theorem dX3_init_47 : decode cX3_init 47 = .ok (.istore_n 1, 1) := by decide +kernel
theorem dX3_init_48 : decode cX3_init 48 = .ok (.iload_n 1, 1) := by decide +kernel
theorem dX3_init_49 : decode cX3_init 49 = .ok (.aload_n 0, 1) := by decide +kernel
theorem dX3_init_50 : decode cX3_init 50 = .ok (.getfield 16, 3) := by decide +kernel
theorem dX3_init_53 : decode cX3_init 53 = .ok (.arraylength, 1) := by decide +kernel
theorem dX3_init_54 : decode cX3_init 54 = .ok (.if_icmp .ge 22, 3) := by decide +kernel
theorem dX3_init_57 : decode cX3_init 57 = .ok (.aload_n 0, 1) := by decide +kernel
theorem dX3_init_58 : decode cX3_init 58 = .ok (.getfield 16, 3) := by decide +kernel
theorem dX3_init_61 : decode cX3_init 61 = .ok (.iload_n 1, 1) := by decide +kernel
theorem dX3_init_62 : decode cX3_init 62 = .ok (.new 7, 3) := by decide +kernel
theorem dX3_init_65 : decode cX3_init 65 = .ok (.dup, 1) := by decide +kernel
theorem dX3_init_66 : decode cX3_init 66 = .ok (.invokespecial 9, 3) := by decide +kernel
theorem dX3_init_69 : decode cX3_init 69 = .ok (.aastore, 1) := by decide +kernel
theorem dX3_init_70 : decode cX3_init 70 = .ok (.iinc 1 1, 3) := by decide +kernel
theorem dX3_init_73 : decode cX3_init 73 = .ok (.goto (-25), 3) := by decide +kernel
theorem dX3_init_76 : decode cX3_init 76 = .ok (.return_, 1) := by decide +kernel
set_option maxRecDepth 20000 in
theorem ggX3_reset_X3_isOutside : GoodIn wsX3_reset wsX3_isOutside := goodIn_r _ [10] (by decide +kernel) (by decide +kernel)
set_option maxRecDepth 20000 in
theorem gX3_reset_X3_isOutside : GoodIn wsX3_reset (va_wsS RX3 37 yX3_isOutside wsX3_isOutside) := goodIn_app (goodIn_of _ (by decide +kernel)) ggX3_reset_X3_isOutside
set_option maxRecDepth 20000 in
theorem ggX3_reset_X3_fail : GoodIn wsX3_reset wsX3_fail := goodIn_r _ [14, 5, 15, 65, 66, 67, 68, 69] (by decide +kernel) (by decide +kernel)
set_option maxRecDepth 20000 in
theorem gX3_reset_X3_fail : GoodIn wsX3_reset (wsV RX3 44 RX3 yX3_fail wsX3_fail) := goodIn_app (goodIn_of _ (by decide +kernel)) ggX3_reset_X3_fail
set_option maxRecDepth 20000 in
theorem ggX3_reset_X3_save : GoodIn wsX3_reset wsX3_save := goodIn_r _ [19, 20, 21, 6, 22, 23, 24, 9, 25, 26, 27, 28, 29, 30, 31, 32, 33, 34, 35, 36, 37, 38, 39, 40, 41, 42, 43, 44, 45, 46, 47, 48, 49, 50, 51, 52, 53, 54, 55, 56, 57, 58, 59, 60, 65, 66, 67, 68, 69, 70, 71, 72, 73, 74, 75, 76, 77, 78, 79, 83, 84, 85, 86, 87, 88, 89, 90, 80, 81, 82] (by decide +kernel) (by decide +kernel)
set_option maxRecDepth 20000 in
theorem gX3_reset_X3_save : GoodIn wsX3_reset (wsV RX3 48 RX3 yX3_save wsX3_save) := goodIn_app (goodIn_of _ (by decide +kernel)) ggX3_reset_X3_save
set_option maxRecDepth 20000 in
theorem ggX3_reset_X0_startFrom : GoodIn wsX3_reset wsX0_startFrom := goodIn_r _ [63, 44, 45, 46, 47, 48, 64, 49, 50, 51, 83, 84, 85, 86, 87, 88, 89, 90] (by decide +kernel) (by decide +kernel)
set_option maxRecDepth 20000 in
theorem gX3_reset_X0_startFrom_n63 : GoodIn wsX3_reset (wsX0_startFrom) := ggX3_reset_X0_startFrom
theorem dX3_reset_0 : decode cX3_reset 0 = .ok (.iload_n 1, 1) := by decide +kernel
theorem dX3_reset_1 : decode cX3_reset 1 = .ok (.ldc 35, 2) := by decide +kernel
theorem dX3_reset_3 : decode cX3_reset 3 = .ok (.ldc 36, 2) := by decide +kernel
theorem dX3_reset_5 : decode cX3_reset 5 = .ok (.invokestatic 37, 3) := by decide +kernel
theorem dX3_reset_8 : decode cX3_reset 8 = .ok (.ifCond .ne 35, 3) := by decide +kernel
theorem dX3_reset_11 : decode cX3_reset 11 = .ok (.iload_n 2, 1) := by decide +kernel
theorem dX3_reset_12 : decode cX3_reset 12 = .ok (.ldc 41, 2) := by decide +kernel
theorem dX3_reset_14 : decode cX3_reset 14 = .ok (.ldc 42, 2) := by decide +kernel
theorem dX3_reset_16 : decode cX3_reset 16 = .ok (.invokestatic 37, 3) := by decide +kernel
theorem dX3_reset_19 : decode cX3_reset 19 = .ok (.ifCond .ne 24, 3) := by decide +kernel
theorem dX3_reset_22 : decode cX3_reset 22 = .ok (.iload_n 3, 1) := by decide +kernel
theorem dX3_reset_23 : decode cX3_reset 23 = .ok (.iconst 0, 1) := by decide +kernel
theorem dX3_reset_24 : decode cX3_reset 24 = .ok (.ldc 36, 2) := by decide +kernel
theorem dX3_reset_26 : decode cX3_reset 26 = .ok (.invokestatic 37, 3) := by decide +kernel
theorem dX3_reset_29 : decode cX3_reset 29 = .ok (.ifCond .ne 14, 3) := by decide +kernel
theorem dX3_reset_32 : decode cX3_reset 32 = .ok (.iload 4, 2) := by decide +kernel
theorem dX3_reset_34 : decode cX3_reset 34 = .ok (.iconst 0, 1) := by decide +kernel
theorem dX3_reset_35 : decode cX3_reset 35 = .ok (.ldc 36, 2) := by decide +kernel
theorem dX3_reset_37 : decode cX3_reset 37 = .ok (.invokestatic 37, 3) := by decide +kernel
theorem dX3_reset_40 : decode cX3_reset 40 = .ok (.ifCond .eq 10, 3) := by decide +kernel
theorem dX3_reset_43 : decode cX3_reset 43 = .ok (.aload_n 0, 1) := by decide +kernel
theorem dX3_reset_44 : decode cX3_reset 44 = .ok (.ldc 43, 2) := by decide +kernel
theorem dX3_reset_46 : decode cX3_reset 46 = .ok (.invokevirtual 44, 3) := by decide +kernel
theorem dX3_reset_49 : decode cX3_reset 49 = .ok (.ireturn, 1) := by decide +kernel
theorem dX3_reset_50 : decode cX3_reset 50 = .ok (.aload_n 0, 1) := by decide +kernel
theorem dX3_reset_51 : decode cX3_reset 51 = .ok (.invokevirtual 48, 3) := by decide +kernel
theorem dX3_reset_54 : decode cX3_reset 54 = .ok (.aload_n 0, 1) := by decide +kernel
theorem dX3_reset_55 : decode cX3_reset 55 = .ok (.getfield 10, 3) := by decide +kernel
theorem dX3_reset_58 : decode cX3_reset 58 = .ok (.getfield 51, 3) := by decide +kernel
theorem dX3_reset_61 : decode cX3_reset 61 = .ok (.getfield 55, 3) := by decide +kernel
theorem dX3_reset_64 : decode cX3_reset 64 = .ok (.istore 5, 2) := by decide +kernel
theorem dX3_reset_66 : decode cX3_reset 66 = .ok (.aload_n 0, 1) := by decide +kernel
theorem dX3_reset_67 : decode cX3_reset 67 = .ok (.getfield 10, 3) := by decide +kernel
theorem dX3_reset_70 : decode cX3_reset 70 = .ok (.getfield 60, 3) := by decide +kernel
theorem dX3_reset_73 : decode cX3_reset 73 = .ok (.iload_n 1, 1) := by decide +kernel
theorem dX3_reset_74 : decode cX3_reset 74 = .ok (.iload_n 2, 1) := by decide +kernel
theorem dX3_reset_75 : decode cX3_reset 75 = .ok (.iload_n 3, 1) := by decide +kernel
theorem dX3_reset_76 : decode cX3_reset 76 = .ok (.iload 4, 2) := by decide +kernel
theorem dX3_reset_78 : decode cX3_reset 78 = .ok (.invokevirtual 63, 3) := by decide +kernel
theorem dX3_reset_81 : decode cX3_reset 81 = .ok (.aload_n 0, 1) := by decide +kernel
theorem dX3_reset_82 : decode cX3_reset 82 = .ok (.getfield 10, 3) := by decide +kernel
theorem dX3_reset_85 : decode cX3_reset 85 = .ok (.getfield 51, 3) := by decide +kernel
theorem dX3_reset_88 : decode cX3_reset 88 = .ok (.iconst 0, 1) := by decide +kernel
theorem dX3_reset_89 : decode cX3_reset 89 = .ok (.putfield 55, 3) := by decide +kernel
theorem dX3_reset_92 : decode cX3_reset 92 = .ok (.aload_n 0, 1) := by decide +kernel
theorem dX3_reset_93 : decode cX3_reset 93 = .ok (.getfield 10, 3) := by decide +kernel
theorem dX3_reset_96 : decode cX3_reset 96 = .ok (.iconst 0, 1) := by decide +kernel
theorem dX3_reset_97 : decode cX3_reset 97 = .ok (.putfield 67, 3) := by decide +kernel
theorem dX3_reset_100 : decode cX3_reset 100 = .ok (.aload_n 0, 1) := by decide +kernel
theorem dX3_reset_101 : decode cX3_reset 101 = .ok (.getfield 10, 3) := by decide +kernel
theorem dX3_reset_104 : decode cX3_reset 104 = .ok (.iconst 0, 1) := by decide +kernel
theorem dX3_reset_105 : decode cX3_reset 105 = .ok (.putfield 70, 3) := by decide +kernel
theorem dX3_reset_108 : decode cX3_reset 108 = .ok (.aload_n 0, 1) := by decide +kernel
theorem dX3_reset_109 : decode cX3_reset 109 = .ok (.getfield 10, 3) := by decide +kernel
theorem dX3_reset_112 : decode cX3_reset 112 = .ok (.iconst 0, 1) := by decide +kernel
theorem dX3_reset_113 : decode cX3_reset 113 = .ok (.putfield 73, 3) := by decide +kernel
theorem dX3_reset_116 : decode cX3_reset 116 = .ok (.iload 5, 2) := by decide +kernel
theorem dX3_reset_118 : decode cX3_reset 118 = .ok (.ireturn, 1) := by decide +kernel
set_option maxRecDepth 20000 in
theorem ggX3_setProcessNoise_X3_isOutside : GoodIn wsX3_setProcessNoise wsX3_isOutside := goodIn_r _ [7] (by decide +kernel) (by decide +kernel)
set_option maxRecDepth 20000 in
theorem gX3_setProcessNoise_X3_isOutside : GoodIn wsX3_setProcessNoise (va_wsS RX3 37 yX3_isOutside wsX3_isOutside) := goodIn_app (goodIn_of _ (by decide +kernel)) ggX3_setProcessNoise_X3_isOutside
set_option maxRecDepth 20000 in
theorem ggX3_setProcessNoise_X3_fail : GoodIn wsX3_setProcessNoise wsX3_fail := goodIn_r _ [11, 2, 12, 58, 59, 60, 61, 62] (by decide +kernel) (by decide +kernel)
set_option maxRecDepth 20000 in
theorem gX3_setProcessNoise_X3_fail : GoodIn wsX3_setProcessNoise (wsV RX3 44 RX3 yX3_fail wsX3_fail) := goodIn_app (goodIn_of _ (by decide +kernel)) ggX3_setProcessNoise_X3_fail
set_option maxRecDepth 20000 in
theorem ggX3_setProcessNoise_X3_save : GoodIn wsX3_setProcessNoise wsX3_save := goodIn_r _ [16, 17, 18, 3, 19, 20, 21, 6, 22, 23, 24, 25, 26, 27, 28, 29, 30, 31, 32, 33, 34, 35, 36, 37, 38, 39, 40, 41, 42, 43, 44, 45, 46, 47, 48, 49, 50, 51, 52, 53, 54, 55, 56, 57, 58, 59, 60, 61, 62, 63, 64, 65, 66, 67, 68, 69, 70, 71, 72, 73, 74, 75, 76, 77, 78, 79, 80, 81, 82, 83] (by decide +kernel) (by decide +kernel)
set_option maxRecDepth 20000 in
theorem gX3_setProcessNoise_X3_save : GoodIn wsX3_setProcessNoise (wsV RX3 48 RX3 yX3_save wsX3_save) := goodIn_app (goodIn_of _ (by decide +kernel)) ggX3_setProcessNoise_X3_save
theorem dX3_setProcessNoise_0 : decode cX3_setProcessNoise 0 = .ok (.iload_n 1, 1) := by decide +kernel
theorem dX3_setProcessNoise_1 : decode cX3_setProcessNoise 1 = .ok (.iconst 0, 1) := by decide +kernel
theorem dX3_setProcessNoise_2 : decode cX3_setProcessNoise 2 = .ok (.ldc 42, 2) := by decide +kernel
theorem dX3_setProcessNoise_4 : decode cX3_setProcessNoise 4 = .ok (.invokestatic 37, 3) := by decide +kernel
theorem dX3_setProcessNoise_7 : decode cX3_setProcessNoise 7 = .ok (.ifCond .ne 13, 3) := by decide +kernel
theorem dX3_setProcessNoise_10 : decode cX3_setProcessNoise 10 = .ok (.iload_n 2, 1) := by decide +kernel
theorem dX3_setProcessNoise_11 : decode cX3_setProcessNoise 11 = .ok (.iconst 0, 1) := by decide +kernel
theorem dX3_setProcessNoise_12 : decode cX3_setProcessNoise 12 = .ok (.ldc 42, 2) := by decide +kernel
theorem dX3_setProcessNoise_14 : decode cX3_setProcessNoise 14 = .ok (.invokestatic 37, 3) := by decide +kernel
theorem dX3_setProcessNoise_17 : decode cX3_setProcessNoise 17 = .ok (.ifCond .eq 10, 3) := by decide +kernel
theorem dX3_setProcessNoise_20 : decode cX3_setProcessNoise 20 = .ok (.aload_n 0, 1) := by decide +kernel
theorem dX3_setProcessNoise_21 : decode cX3_setProcessNoise 21 = .ok (.ldc 43, 2) := by decide +kernel
theorem dX3_setProcessNoise_23 : decode cX3_setProcessNoise 23 = .ok (.invokevirtual 44, 3) := by decide +kernel
theorem dX3_setProcessNoise_26 : decode cX3_setProcessNoise 26 = .ok (.ireturn, 1) := by decide +kernel
theorem dX3_setProcessNoise_27 : decode cX3_setProcessNoise 27 = .ok (.aload_n 0, 1) := by decide +kernel
theorem dX3_setProcessNoise_28 : decode cX3_setProcessNoise 28 = .ok (.invokevirtual 48, 3) := by decide +kernel
theorem dX3_setProcessNoise_31 : decode cX3_setProcessNoise 31 = .ok (.aload_n 0, 1) := by decide +kernel
theorem dX3_setProcessNoise_32 : decode cX3_setProcessNoise 32 = .ok (.getfield 10, 3) := by decide +kernel
theorem dX3_setProcessNoise_35 : decode cX3_setProcessNoise 35 = .ok (.getfield 76, 3) := by decide +kernel
theorem dX3_setProcessNoise_38 : decode cX3_setProcessNoise 38 = .ok (.istore_n 3, 1) := by decide +kernel
theorem dX3_setProcessNoise_39 : decode cX3_setProcessNoise 39 = .ok (.aload_n 0, 1) := by decide +kernel
theorem dX3_setProcessNoise_40 : decode cX3_setProcessNoise 40 = .ok (.getfield 10, 3) := by decide +kernel
theorem dX3_setProcessNoise_43 : decode cX3_setProcessNoise 43 = .ok (.iload_n 1, 1) := by decide +kernel
theorem dX3_setProcessNoise_44 : decode cX3_setProcessNoise 44 = .ok (.putfield 79, 3) := by decide +kernel
theorem dX3_setProcessNoise_47 : decode cX3_setProcessNoise 47 = .ok (.aload_n 0, 1) := by decide +kernel
theorem dX3_setProcessNoise_48 : decode cX3_setProcessNoise 48 = .ok (.getfield 10, 3) := by decide +kernel
theorem dX3_setProcessNoise_51 : decode cX3_setProcessNoise 51 = .ok (.iload_n 2, 1) := by decide +kernel
theorem dX3_setProcessNoise_52 : decode cX3_setProcessNoise 52 = .ok (.putfield 76, 3) := by decide +kernel
theorem dX3_setProcessNoise_55 : decode cX3_setProcessNoise 55 = .ok (.iload_n 3, 1) := by decide +kernel
theorem dX3_setProcessNoise_56 : decode cX3_setProcessNoise 56 = .ok (.ireturn, 1) := by decide +kernel
set_option maxRecDepth 20000 in
theorem ggX3_setSensor_X3_isSensor : GoodIn wsX3_setSensor wsX3_isSensor := goodIn_r _ [7, 8, 9, 6, 10] (by decide +kernel) (by decide +kernel)
set_option maxRecDepth 20000 in
theorem gX3_setSensor_X3_isSensor : GoodIn wsX3_setSensor (va_wsS RX3 82 yX3_isSensor wsX3_isSensor) := goodIn_app (goodIn_of _ (by decide +kernel)) ggX3_setSensor_X3_isSensor
set_option maxRecDepth 20000 in
theorem ggX3_setSensor_X3_isKind : GoodIn wsX3_setSensor wsX3_isKind := goodIn_r _ [13] (by decide +kernel) (by decide +kernel)
set_option maxRecDepth 20000 in
theorem gX3_setSensor_X3_isKind : GoodIn wsX3_setSensor (va_wsS RX3 86 yX3_isKind wsX3_isKind) := goodIn_app (goodIn_of _ (by decide +kernel)) ggX3_setSensor_X3_isKind
set_option maxRecDepth 20000 in
theorem ggX3_setSensor_X3_isOutside : GoodIn wsX3_setSensor wsX3_isOutside := goodIn_r _ [10] (by decide +kernel) (by decide +kernel)
set_option maxRecDepth 20000 in
theorem gX3_setSensor_X3_isOutside : GoodIn wsX3_setSensor (va_wsS RX3 37 yX3_isOutside wsX3_isOutside) := goodIn_app (goodIn_of _ (by decide +kernel)) ggX3_setSensor_X3_isOutside
set_option maxRecDepth 20000 in
theorem ggX3_setSensor_X3_fail : GoodIn wsX3_setSensor wsX3_fail := goodIn_r _ [17, 2, 18, 64, 65, 66, 67, 68] (by decide +kernel) (by decide +kernel)
set_option maxRecDepth 20000 in
theorem gX3_setSensor_X3_fail : GoodIn wsX3_setSensor (wsV RX3 44 RX3 yX3_fail wsX3_fail) := goodIn_app (goodIn_of _ (by decide +kernel)) ggX3_setSensor_X3_fail
set_option maxRecDepth 20000 in
theorem ggX3_setSensor_X3_save : GoodIn wsX3_setSensor wsX3_save := goodIn_r _ [22, 23, 24, 3, 25, 26, 27, 6, 28, 29, 30, 31, 32, 33, 34, 35, 36, 37, 38, 39, 40, 41, 42, 43, 44, 45, 46, 47, 48, 49, 50, 51, 52, 53, 54, 55, 56, 57, 58, 59, 60, 61, 62, 63, 64, 65, 66, 67, 68, 69, 70, 71, 72, 73, 74, 75, 76, 77, 78, 79, 80, 81, 82, 83, 84, 85, 86, 87, 88, 89] (by decide +kernel) (by decide +kernel)
set_option maxRecDepth 20000 in
theorem gX3_setSensor_X3_save : GoodIn wsX3_setSensor (wsV RX3 48 RX3 yX3_save wsX3_save) := goodIn_app (goodIn_of _ (by decide +kernel)) ggX3_setSensor_X3_save
theorem dX3_setSensor_0 : decode cX3_setSensor 0 = .ok (.iload_n 1, 1) := by decide +kernel
theorem dX3_setSensor_1 : decode cX3_setSensor 1 = .ok (.invokestatic 82, 3) := by decide +kernel
theorem dX3_setSensor_4 : decode cX3_setSensor 4 = .ok (.ifCond .eq 20, 3) := by decide +kernel
theorem dX3_setSensor_7 : decode cX3_setSensor 7 = .ok (.iload_n 2, 1) := by decide +kernel
theorem dX3_setSensor_8 : decode cX3_setSensor 8 = .ok (.invokestatic 86, 3) := by decide +kernel
theorem dX3_setSensor_11 : decode cX3_setSensor 11 = .ok (.ifCond .eq 13, 3) := by decide +kernel
theorem dX3_setSensor_14 : decode cX3_setSensor 14 = .ok (.iload_n 3, 1) := by decide +kernel
theorem dX3_setSensor_15 : decode cX3_setSensor 15 = .ok (.iconst 1, 1) := by decide +kernel
theorem dX3_setSensor_16 : decode cX3_setSensor 16 = .ok (.ldc 36, 2) := by decide +kernel
theorem dX3_setSensor_18 : decode cX3_setSensor 18 = .ok (.invokestatic 37, 3) := by decide +kernel
theorem dX3_setSensor_21 : decode cX3_setSensor 21 = .ok (.ifCond .eq 10, 3) := by decide +kernel
theorem dX3_setSensor_24 : decode cX3_setSensor 24 = .ok (.aload_n 0, 1) := by decide +kernel
theorem dX3_setSensor_25 : decode cX3_setSensor 25 = .ok (.ldc 43, 2) := by decide +kernel
theorem dX3_setSensor_27 : decode cX3_setSensor 27 = .ok (.invokevirtual 44, 3) := by decide +kernel
theorem dX3_setSensor_30 : decode cX3_setSensor 30 = .ok (.ireturn, 1) := by decide +kernel
theorem dX3_setSensor_31 : decode cX3_setSensor 31 = .ok (.aload_n 0, 1) := by decide +kernel
theorem dX3_setSensor_32 : decode cX3_setSensor 32 = .ok (.invokevirtual 48, 3) := by decide +kernel
theorem dX3_setSensor_35 : decode cX3_setSensor 35 = .ok (.aload_n 0, 1) := by decide +kernel
theorem dX3_setSensor_36 : decode cX3_setSensor 36 = .ok (.getfield 10, 3) := by decide +kernel
theorem dX3_setSensor_39 : decode cX3_setSensor 39 = .ok (.getfield 89, 3) := by decide +kernel
theorem dX3_setSensor_42 : decode cX3_setSensor 42 = .ok (.iload_n 1, 1) := by decide +kernel
theorem dX3_setSensor_43 : decode cX3_setSensor 43 = .ok (.iaload, 1) := by decide +kernel
theorem dX3_setSensor_44 : decode cX3_setSensor 44 = .ok (.istore 4, 2) := by decide +kernel
theorem dX3_setSensor_46 : decode cX3_setSensor 46 = .ok (.aload_n 0, 1) := by decide +kernel
theorem dX3_setSensor_47 : decode cX3_setSensor 47 = .ok (.getfield 10, 3) := by decide +kernel
theorem dX3_setSensor_50 : decode cX3_setSensor 50 = .ok (.getfield 92, 3) := by decide +kernel
theorem dX3_setSensor_53 : decode cX3_setSensor 53 = .ok (.iload_n 1, 1) := by decide +kernel
theorem dX3_setSensor_54 : decode cX3_setSensor 54 = .ok (.iload_n 2, 1) := by decide +kernel
theorem dX3_setSensor_55 : decode cX3_setSensor 55 = .ok (.iastore, 1) := by decide +kernel
theorem dX3_setSensor_56 : decode cX3_setSensor 56 = .ok (.aload_n 0, 1) := by decide +kernel
theorem dX3_setSensor_57 : decode cX3_setSensor 57 = .ok (.getfield 10, 3) := by decide +kernel
theorem dX3_setSensor_60 : decode cX3_setSensor 60 = .ok (.getfield 89, 3) := by decide +kernel
theorem dX3_setSensor_63 : decode cX3_setSensor 63 = .ok (.iload_n 1, 1) := by decide +kernel
theorem dX3_setSensor_64 : decode cX3_setSensor 64 = .ok (.iload_n 3, 1) := by decide +kernel
theorem dX3_setSensor_65 : decode cX3_setSensor 65 = .ok (.iastore, 1) := by decide +kernel
theorem dX3_setSensor_66 : decode cX3_setSensor 66 = .ok (.iload 4, 2) := by decide +kernel
theorem dX3_setSensor_68 : decode cX3_setSensor 68 = .ok (.ireturn, 1) := by decide +kernel
set_option maxRecDepth 20000 in
theorem ggX3_setGate_X3_isOutside : GoodIn wsX3_setGate wsX3_isOutside := goodIn_r _ [6] (by decide +kernel) (by decide +kernel)
set_option maxRecDepth 20000 in
theorem gX3_setGate_X3_isOutside : GoodIn wsX3_setGate (va_wsS RX3 37 yX3_isOutside wsX3_isOutside) := goodIn_app (goodIn_of _ (by decide +kernel)) ggX3_setGate_X3_isOutside
set_option maxRecDepth 20000 in
theorem ggX3_setGate_X3_fail : GoodIn wsX3_setGate wsX3_fail := goodIn_r _ [10, 1, 11, 57, 58, 59, 60, 61] (by decide +kernel) (by decide +kernel)
set_option maxRecDepth 20000 in
theorem gX3_setGate_X3_fail : GoodIn wsX3_setGate (wsV RX3 44 RX3 yX3_fail wsX3_fail) := goodIn_app (goodIn_of _ (by decide +kernel)) ggX3_setGate_X3_fail
set_option maxRecDepth 20000 in
theorem ggX3_setGate_X3_save : GoodIn wsX3_setGate wsX3_save := goodIn_r _ [15, 16, 17, 2, 18, 19, 20, 5, 21, 22, 23, 24, 25, 26, 27, 28, 29, 30, 31, 32, 33, 34, 35, 36, 37, 38, 39, 40, 41, 42, 43, 44, 45, 46, 47, 48, 49, 50, 51, 52, 53, 54, 55, 56, 57, 58, 59, 60, 61, 62, 63, 64, 65, 66, 67, 68, 69, 70, 71, 72, 73, 74, 75, 76, 77, 78, 79, 80, 81, 82] (by decide +kernel) (by decide +kernel)
set_option maxRecDepth 20000 in
theorem gX3_setGate_X3_save : GoodIn wsX3_setGate (wsV RX3 48 RX3 yX3_save wsX3_save) := goodIn_app (goodIn_of _ (by decide +kernel)) ggX3_setGate_X3_save
theorem dX3_setGate_0 : decode cX3_setGate 0 = .ok (.iload_n 1, 1) := by decide +kernel
theorem dX3_setGate_1 : decode cX3_setGate 1 = .ok (.iconst 0, 1) := by decide +kernel
theorem dX3_setGate_2 : decode cX3_setGate 2 = .ok (.bipush 25, 2) := by decide +kernel
theorem dX3_setGate_4 : decode cX3_setGate 4 = .ok (.invokestatic 37, 3) := by decide +kernel
theorem dX3_setGate_7 : decode cX3_setGate 7 = .ok (.ifCond .eq 10, 3) := by decide +kernel
theorem dX3_setGate_10 : decode cX3_setGate 10 = .ok (.aload_n 0, 1) := by decide +kernel
theorem dX3_setGate_11 : decode cX3_setGate 11 = .ok (.ldc 43, 2) := by decide +kernel
theorem dX3_setGate_13 : decode cX3_setGate 13 = .ok (.invokevirtual 44, 3) := by decide +kernel
theorem dX3_setGate_16 : decode cX3_setGate 16 = .ok (.ireturn, 1) := by decide +kernel
theorem dX3_setGate_17 : decode cX3_setGate 17 = .ok (.aload_n 0, 1) := by decide +kernel
theorem dX3_setGate_18 : decode cX3_setGate 18 = .ok (.invokevirtual 48, 3) := by decide +kernel
theorem dX3_setGate_21 : decode cX3_setGate 21 = .ok (.aload_n 0, 1) := by decide +kernel
theorem dX3_setGate_22 : decode cX3_setGate 22 = .ok (.getfield 10, 3) := by decide +kernel
theorem dX3_setGate_25 : decode cX3_setGate 25 = .ok (.getfield 95, 3) := by decide +kernel
theorem dX3_setGate_28 : decode cX3_setGate 28 = .ok (.istore_n 2, 1) := by decide +kernel
theorem dX3_setGate_29 : decode cX3_setGate 29 = .ok (.aload_n 0, 1) := by decide +kernel
theorem dX3_setGate_30 : decode cX3_setGate 30 = .ok (.getfield 10, 3) := by decide +kernel
theorem dX3_setGate_33 : decode cX3_setGate 33 = .ok (.iload_n 1, 1) := by decide +kernel
theorem dX3_setGate_34 : decode cX3_setGate 34 = .ok (.putfield 95, 3) := by decide +kernel
theorem dX3_setGate_37 : decode cX3_setGate 37 = .ok (.iload_n 2, 1) := by decide +kernel
theorem dX3_setGate_38 : decode cX3_setGate 38 = .ok (.ireturn, 1) := by decide +kernel
set_option maxRecDepth 20000 in
theorem ggX3_predict_X3_isOutside : GoodIn wsX3_predict wsX3_isOutside := goodIn_r _ [10] (by decide +kernel) (by decide +kernel)
set_option maxRecDepth 20000 in
theorem gX3_predict_X3_isOutside : GoodIn wsX3_predict (va_wsS RX3 37 yX3_isOutside wsX3_isOutside) := goodIn_app (goodIn_of _ (by decide +kernel)) ggX3_predict_X3_isOutside
set_option maxRecDepth 20000 in
theorem ggX3_predict_X3_fail : GoodIn wsX3_predict wsX3_fail := goodIn_r _ [14, 3, 15, 84, 85, 86, 87, 88] (by decide +kernel) (by decide +kernel)
set_option maxRecDepth 20000 in
theorem gX3_predict_X3_fail : GoodIn wsX3_predict (wsV RX3 44 RX3 yX3_fail wsX3_fail) := goodIn_app (goodIn_of _ (by decide +kernel)) ggX3_predict_X3_fail
set_option maxRecDepth 20000 in
theorem ggX3_predict_X0_copyFrom : GoodIn wsX3_predict wsX0_copyFrom := goodIn_r _ [19, 20, 21, 22, 23, 24, 25, 26, 27, 99, 100, 101, 102, 103, 104, 105, 106] (by decide +kernel) (by decide +kernel)
set_option maxRecDepth 20000 in
theorem gX3_predict_X0_copyFrom_n98 : GoodIn wsX3_predict (wsX0_copyFrom) := ggX3_predict_X0_copyFrom
set_option maxRecDepth 20000 in
theorem ggX3_predict_X0_advance : GoodIn wsX3_predict wsX0_advance := goodIn_r _ [30, 20, 21, 22, 31, 23, 24, 32, 33, 34, 17, 35, 36, 37, 38, 39, 40, 9, 41, 42, 43, 99, 100, 101, 102, 103, 104, 105, 106] (by decide +kernel) (by decide +kernel)
set_option maxRecDepth 20000 in
theorem gX3_predict_X0_advance_n102 : GoodIn wsX3_predict (wsX0_advance) := ggX3_predict_X0_advance
set_option maxRecDepth 20000 in
theorem ggX3_predict_X3_save : GoodIn wsX3_predict wsX3_save := goodIn_r _ [47, 48, 49, 5, 50, 51, 52, 9, 53, 54, 55, 56, 57, 58, 59, 60, 61, 62, 63, 64, 65, 66, 67, 16, 17, 18, 19, 20, 21, 22, 23, 24, 25, 26, 27, 68, 69, 70, 71, 72, 73, 74, 75, 76, 84, 85, 86, 87, 88, 89, 90, 91, 92, 93, 94, 95, 96, 97, 98, 99, 100, 101, 102, 103, 104, 105, 106, 107, 108, 109] (by decide +kernel) (by decide +kernel)
set_option maxRecDepth 20000 in
theorem gX3_predict_X3_save : GoodIn wsX3_predict (wsV RX3 48 RX3 yX3_save wsX3_save) := goodIn_app (goodIn_of _ (by decide +kernel)) ggX3_predict_X3_save
set_option maxRecDepth 20000 in
theorem ggX3_predict_X1_append : GoodIn wsX3_predict wsX1_append := goodIn_r _ [79, 76, 74, 75, 80, 81, 82, 71, 83, 107, 108, 109] (by decide +kernel) (by decide +kernel)
set_option maxRecDepth 20000 in
theorem gX3_predict_X1_append_n107 : GoodIn wsX3_predict (wsX1_append) := ggX3_predict_X1_append
theorem dX3_predict_0 : decode cX3_predict 0 = .ok (.iload_n 1, 1) := by decide +kernel
theorem dX3_predict_1 : decode cX3_predict 1 = .ok (.ldc 41, 2) := by decide +kernel
theorem dX3_predict_3 : decode cX3_predict 3 = .ok (.ldc 42, 2) := by decide +kernel
theorem dX3_predict_5 : decode cX3_predict 5 = .ok (.invokestatic 37, 3) := by decide +kernel
theorem dX3_predict_8 : decode cX3_predict 8 = .ok (.ifCond .eq 10, 3) := by decide +kernel
theorem dX3_predict_11 : decode cX3_predict 11 = .ok (.aload_n 0, 1) := by decide +kernel
theorem dX3_predict_12 : decode cX3_predict 12 = .ok (.ldc 43, 2) := by decide +kernel
theorem dX3_predict_14 : decode cX3_predict 14 = .ok (.invokevirtual 44, 3) := by decide +kernel
theorem dX3_predict_17 : decode cX3_predict 17 = .ok (.ireturn, 1) := by decide +kernel
theorem dX3_predict_18 : decode cX3_predict 18 = .ok (.aload_n 0, 1) := by decide +kernel
theorem dX3_predict_19 : decode cX3_predict 19 = .ok (.getfield 31, 3) := by decide +kernel
theorem dX3_predict_22 : decode cX3_predict 22 = .ok (.aload_n 0, 1) := by decide +kernel
theorem dX3_predict_23 : decode cX3_predict 23 = .ok (.getfield 10, 3) := by decide +kernel
theorem dX3_predict_26 : decode cX3_predict 26 = .ok (.getfield 60, 3) := by decide +kernel
theorem dX3_predict_29 : decode cX3_predict 29 = .ok (.invokevirtual 98, 3) := by decide +kernel
theorem dX3_predict_32 : decode cX3_predict 32 = .ok (.aload_n 0, 1) := by decide +kernel
theorem dX3_predict_33 : decode cX3_predict 33 = .ok (.getfield 31, 3) := by decide +kernel
theorem dX3_predict_36 : decode cX3_predict 36 = .ok (.iload_n 1, 1) := by decide +kernel
theorem dX3_predict_37 : decode cX3_predict 37 = .ok (.i2l, 1) := by decide +kernel
theorem dX3_predict_38 : decode cX3_predict 38 = .ok (.aload_n 0, 1) := by decide +kernel
theorem dX3_predict_39 : decode cX3_predict 39 = .ok (.getfield 10, 3) := by decide +kernel
theorem dX3_predict_42 : decode cX3_predict 42 = .ok (.getfield 79, 3) := by decide +kernel
theorem dX3_predict_45 : decode cX3_predict 45 = .ok (.i2l, 1) := by decide +kernel
theorem dX3_predict_46 : decode cX3_predict 46 = .ok (.aload_n 0, 1) := by decide +kernel
theorem dX3_predict_47 : decode cX3_predict 47 = .ok (.getfield 10, 3) := by decide +kernel
theorem dX3_predict_50 : decode cX3_predict 50 = .ok (.getfield 76, 3) := by decide +kernel
theorem dX3_predict_53 : decode cX3_predict 53 = .ok (.i2l, 1) := by decide +kernel
theorem dX3_predict_54 : decode cX3_predict 54 = .ok (.invokevirtual 102, 3) := by decide +kernel
theorem dX3_predict_57 : decode cX3_predict 57 = .ok (.ifCond .ne 10, 3) := by decide +kernel
theorem dX3_predict_60 : decode cX3_predict 60 = .ok (.aload_n 0, 1) := by decide +kernel
theorem dX3_predict_61 : decode cX3_predict 61 = .ok (.ldc 106, 2) := by decide +kernel
theorem dX3_predict_63 : decode cX3_predict 63 = .ok (.invokevirtual 44, 3) := by decide +kernel
theorem dX3_predict_66 : decode cX3_predict 66 = .ok (.ireturn, 1) := by decide +kernel
theorem dX3_predict_67 : decode cX3_predict 67 = .ok (.aload_n 0, 1) := by decide +kernel
theorem dX3_predict_68 : decode cX3_predict 68 = .ok (.invokevirtual 48, 3) := by decide +kernel
theorem dX3_predict_71 : decode cX3_predict 71 = .ok (.aload_n 0, 1) := by decide +kernel
theorem dX3_predict_72 : decode cX3_predict 72 = .ok (.getfield 10, 3) := by decide +kernel
theorem dX3_predict_75 : decode cX3_predict 75 = .ok (.getfield 60, 3) := by decide +kernel
theorem dX3_predict_78 : decode cX3_predict 78 = .ok (.aload_n 0, 1) := by decide +kernel
theorem dX3_predict_79 : decode cX3_predict 79 = .ok (.getfield 31, 3) := by decide +kernel
theorem dX3_predict_82 : decode cX3_predict 82 = .ok (.invokevirtual 98, 3) := by decide +kernel
theorem dX3_predict_85 : decode cX3_predict 85 = .ok (.aload_n 0, 1) := by decide +kernel
theorem dX3_predict_86 : decode cX3_predict 86 = .ok (.getfield 10, 3) := by decide +kernel
theorem dX3_predict_89 : decode cX3_predict 89 = .ok (.getfield 51, 3) := by decide +kernel
theorem dX3_predict_92 : decode cX3_predict 92 = .ok (.iconst (-1), 1) := by decide +kernel
theorem dX3_predict_93 : decode cX3_predict 93 = .ok (.iload_n 1, 1) := by decide +kernel
theorem dX3_predict_94 : decode cX3_predict 94 = .ok (.invokevirtual 107, 3) := by decide +kernel
theorem dX3_predict_97 : decode cX3_predict 97 = .ok (.aload_n 0, 1) := by decide +kernel
theorem dX3_predict_98 : decode cX3_predict 98 = .ok (.getfield 10, 3) := by decide +kernel
theorem dX3_predict_101 : decode cX3_predict 101 = .ok (.getfield 60, 3) := by decide +kernel
theorem dX3_predict_104 : decode cX3_predict 104 = .ok (.getfield 111, 3) := by decide +kernel
theorem dX3_predict_107 : decode cX3_predict 107 = .ok (.l2i, 1) := by decide +kernel
theorem dX3_predict_108 : decode cX3_predict 108 = .ok (.ireturn, 1) := by decide +kernel
set_option maxRecDepth 20000 in
theorem ggX3_correct_X3_isSensor : GoodIn wsX3_correct wsX3_isSensor := goodIn_r _ [10, 11, 12, 9, 13] (by decide +kernel) (by decide +kernel)
set_option maxRecDepth 20000 in
theorem gX3_correct_X3_isSensor : GoodIn wsX3_correct (va_wsS RX3 82 yX3_isSensor wsX3_isSensor) := goodIn_app (goodIn_of _ (by decide +kernel)) ggX3_correct_X3_isSensor
set_option maxRecDepth 20000 in
theorem ggX3_correct_X3_isOutside : GoodIn wsX3_correct wsX3_isOutside := goodIn_r _ [13] (by decide +kernel) (by decide +kernel)
set_option maxRecDepth 20000 in
theorem gX3_correct_X3_isOutside : GoodIn wsX3_correct (va_wsS RX3 37 yX3_isOutside wsX3_isOutside) := goodIn_app (goodIn_of _ (by decide +kernel)) ggX3_correct_X3_isOutside
set_option maxRecDepth 20000 in
theorem ggX3_correct_X3_fail : GoodIn wsX3_correct wsX3_fail := goodIn_r _ [17, 3, 18, 103, 104, 105, 106, 107] (by decide +kernel) (by decide +kernel)
set_option maxRecDepth 20000 in
theorem gX3_correct_X3_fail : GoodIn wsX3_correct (wsV RX3 44 RX3 yX3_fail wsX3_fail) := goodIn_app (goodIn_of _ (by decide +kernel)) ggX3_correct_X3_fail
set_option maxRecDepth 20000 in
theorem ggX3_correct_X0_copyFrom : GoodIn wsX3_correct wsX0_copyFrom := goodIn_r _ [22, 23, 24, 25, 26, 27, 28, 29, 30, 118, 119, 120, 121, 122, 123, 124, 125] (by decide +kernel) (by decide +kernel)
set_option maxRecDepth 20000 in
theorem gX3_correct_X0_copyFrom_n98 : GoodIn wsX3_correct (wsX0_copyFrom) := ggX3_correct_X0_copyFrom
set_option maxRecDepth 20000 in
theorem ggX3_correct_X0_take : GoodIn wsX3_correct wsX0_take := goodIn_r _ [33, 25, 26, 27, 34, 28, 35, 23, 24, 29, 30, 36, 37, 38, 20, 39, 40, 9, 41, 42, 43, 44, 45, 46, 47, 48, 49, 50, 51, 52, 53, 54, 55, 56, 57, 58, 59, 60, 61, 62, 118, 119, 120, 121, 122, 123, 124, 125] (by decide +kernel) (by decide +kernel)
set_option maxRecDepth 20000 in
theorem gX3_correct_X0_take_n115 : GoodIn wsX3_correct (wsX0_take) := ggX3_correct_X0_take
set_option maxRecDepth 20000 in
theorem ggX3_correct_X3_save : GoodIn wsX3_correct wsX3_save := goodIn_r _ [66, 67, 68, 5, 69, 70, 71, 9, 72, 73, 74, 75, 76, 77, 78, 79, 80, 81, 82, 83, 84, 85, 86, 19, 20, 21, 22, 23, 24, 25, 26, 27, 28, 29, 30, 87, 88, 89, 90, 91, 92, 93, 94, 95, 103, 104, 105, 106, 107, 108, 109, 110, 111, 112, 113, 114, 115, 116, 117, 118, 119, 120, 121, 122, 123, 124, 125, 126, 127, 128] (by decide +kernel) (by decide +kernel)
set_option maxRecDepth 20000 in
theorem gX3_correct_X3_save : GoodIn wsX3_correct (wsV RX3 48 RX3 yX3_save wsX3_save) := goodIn_app (goodIn_of _ (by decide +kernel)) ggX3_correct_X3_save
set_option maxRecDepth 20000 in
theorem ggX3_correct_X1_append : GoodIn wsX3_correct wsX1_append := goodIn_r _ [98, 95, 93, 94, 99, 100, 101, 90, 102, 126, 127, 128] (by decide +kernel) (by decide +kernel)
set_option maxRecDepth 20000 in
theorem gX3_correct_X1_append_n107 : GoodIn wsX3_correct (wsX1_append) := ggX3_correct_X1_append
theorem dX3_correct_0 : decode cX3_correct 0 = .ok (.iload_n 1, 1) := by decide +kernel
theorem dX3_correct_1 : decode cX3_correct 1 = .ok (.invokestatic 82, 3) := by decide +kernel
theorem dX3_correct_4 : decode cX3_correct 4 = .ok (.ifCond .eq 14, 3) := by decide +kernel
theorem dX3_correct_7 : decode cX3_correct 7 = .ok (.iload_n 2, 1) := by decide +kernel
theorem dX3_correct_8 : decode cX3_correct 8 = .ok (.ldc 35, 2) := by decide +kernel
theorem dX3_correct_10 : decode cX3_correct 10 = .ok (.ldc 36, 2) := by decide +kernel
theorem dX3_correct_12 : decode cX3_correct 12 = .ok (.invokestatic 37, 3) := by decide +kernel
theorem dX3_correct_15 : decode cX3_correct 15 = .ok (.ifCond .eq 10, 3) := by decide +kernel
theorem dX3_correct_18 : decode cX3_correct 18 = .ok (.aload_n 0, 1) := by decide +kernel
theorem dX3_correct_19 : decode cX3_correct 19 = .ok (.ldc 43, 2) := by decide +kernel
theorem dX3_correct_21 : decode cX3_correct 21 = .ok (.invokevirtual 44, 3) := by decide +kernel
theorem dX3_correct_24 : decode cX3_correct 24 = .ok (.ireturn, 1) := by decide +kernel
theorem dX3_correct_25 : decode cX3_correct 25 = .ok (.aload_n 0, 1) := by decide +kernel
theorem dX3_correct_26 : decode cX3_correct 26 = .ok (.getfield 31, 3) := by decide +kernel
theorem dX3_correct_29 : decode cX3_correct 29 = .ok (.aload_n 0, 1) := by decide +kernel
theorem dX3_correct_30 : decode cX3_correct 30 = .ok (.getfield 10, 3) := by decide +kernel
theorem dX3_correct_33 : decode cX3_correct 33 = .ok (.getfield 60, 3) := by decide +kernel
theorem dX3_correct_36 : decode cX3_correct 36 = .ok (.invokevirtual 98, 3) := by decide +kernel
theorem dX3_correct_39 : decode cX3_correct 39 = .ok (.aload_n 0, 1) := by decide +kernel
theorem dX3_correct_40 : decode cX3_correct 40 = .ok (.getfield 31, 3) := by decide +kernel
theorem dX3_correct_43 : decode cX3_correct 43 = .ok (.iload_n 2, 1) := by decide +kernel
theorem dX3_correct_44 : decode cX3_correct 44 = .ok (.i2l, 1) := by decide +kernel
theorem dX3_correct_45 : decode cX3_correct 45 = .ok (.aload_n 0, 1) := by decide +kernel
theorem dX3_correct_46 : decode cX3_correct 46 = .ok (.getfield 10, 3) := by decide +kernel
theorem dX3_correct_49 : decode cX3_correct 49 = .ok (.getfield 92, 3) := by decide +kernel
theorem dX3_correct_52 : decode cX3_correct 52 = .ok (.iload_n 1, 1) := by decide +kernel
theorem dX3_correct_53 : decode cX3_correct 53 = .ok (.iaload, 1) := by decide +kernel
theorem dX3_correct_54 : decode cX3_correct 54 = .ok (.aload_n 0, 1) := by decide +kernel
theorem dX3_correct_55 : decode cX3_correct 55 = .ok (.getfield 10, 3) := by decide +kernel
theorem dX3_correct_58 : decode cX3_correct 58 = .ok (.getfield 89, 3) := by decide +kernel
theorem dX3_correct_61 : decode cX3_correct 61 = .ok (.iload_n 1, 1) := by decide +kernel
theorem dX3_correct_62 : decode cX3_correct 62 = .ok (.iaload, 1) := by decide +kernel
theorem dX3_correct_63 : decode cX3_correct 63 = .ok (.i2l, 1) := by decide +kernel
theorem dX3_correct_64 : decode cX3_correct 64 = .ok (.aload_n 0, 1) := by decide +kernel
theorem dX3_correct_65 : decode cX3_correct 65 = .ok (.getfield 10, 3) := by decide +kernel
theorem dX3_correct_68 : decode cX3_correct 68 = .ok (.getfield 95, 3) := by decide +kernel
theorem dX3_correct_71 : decode cX3_correct 71 = .ok (.i2l, 1) := by decide +kernel
theorem dX3_correct_72 : decode cX3_correct 72 = .ok (.invokevirtual 115, 3) := by decide +kernel
theorem dX3_correct_75 : decode cX3_correct 75 = .ok (.istore_n 3, 1) := by decide +kernel
theorem dX3_correct_76 : decode cX3_correct 76 = .ok (.iload_n 3, 1) := by decide +kernel
theorem dX3_correct_77 : decode cX3_correct 77 = .ok (.ldc 106, 2) := by decide +kernel
theorem dX3_correct_79 : decode cX3_correct 79 = .ok (.if_icmp .ne 10, 3) := by decide +kernel
theorem dX3_correct_82 : decode cX3_correct 82 = .ok (.aload_n 0, 1) := by decide +kernel
theorem dX3_correct_83 : decode cX3_correct 83 = .ok (.ldc 106, 2) := by decide +kernel
theorem dX3_correct_85 : decode cX3_correct 85 = .ok (.invokevirtual 44, 3) := by decide +kernel
theorem dX3_correct_88 : decode cX3_correct 88 = .ok (.ireturn, 1) := by decide +kernel
theorem dX3_correct_89 : decode cX3_correct 89 = .ok (.aload_n 0, 1) := by decide +kernel
theorem dX3_correct_90 : decode cX3_correct 90 = .ok (.invokevirtual 48, 3) := by decide +kernel
theorem dX3_correct_93 : decode cX3_correct 93 = .ok (.aload_n 0, 1) := by decide +kernel
theorem dX3_correct_94 : decode cX3_correct 94 = .ok (.getfield 10, 3) := by decide +kernel
theorem dX3_correct_97 : decode cX3_correct 97 = .ok (.getfield 60, 3) := by decide +kernel
theorem dX3_correct_100 : decode cX3_correct 100 = .ok (.aload_n 0, 1) := by decide +kernel
