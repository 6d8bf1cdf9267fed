theorem dX4_note_22 : decode cX4_note 22 = .ok (.aload_n 0, 1) := by decide +kernel
theorem dX4_note_23 : decode cX4_note 23 = .ok (.getfield 13, 3) := by decide +kernel
theorem dX4_note_26 : decode cX4_note 26 = .ok (.iload_n 1, 1) := by decide +kernel
theorem dX4_note_27 : decode cX4_note 27 = .ok (.bipush 71, 2) := by decide +kernel
theorem dX4_note_29 : decode cX4_note 29 = .ok (.iadd, 1) := by decide +kernel
theorem dX4_note_30 : decode cX4_note 30 = .ok (.iaload, 1) := by decide +kernel
theorem dX4_note_31 : decode cX4_note 31 = .ok (.iastore, 1) := by decide +kernel
theorem dX4_note_32 : decode cX4_note 32 = .ok (.iinc 1 1, 3) := by decide +kernel
theorem dX4_note_35 : decode cX4_note 35 = .ok (.goto (-25), 3) := by decide +kernel
theorem dX4_note_38 : decode cX4_note 38 = .ok (.aload_n 0, 1) := by decide +kernel
theorem dX4_note_39 : decode cX4_note 39 = .ok (.dup, 1) := by decide +kernel
theorem dX4_note_40 : decode cX4_note 40 = .ok (.getfield 28, 3) := by decide +kernel
theorem dX4_note_43 : decode cX4_note 43 = .ok (.iconst 1, 1) := by decide +kernel
theorem dX4_note_44 : decode cX4_note 44 = .ok (.isub, 1) := by decide +kernel
theorem dX4_note_45 : decode cX4_note 45 = .ok (.putfield 28, 3) := by decide +kernel
theorem dX4_note_48 : decode cX4_note 48 = .ok (.iconst 0, 1) := by decide +kernel
theorem dX4_note_49 : decode cX4_note 49 = .ok (.istore_n 1, 1) := by decide +kernel
theorem dX4_note_50 : decode cX4_note 50 = .ok (.iload_n 1, 1) := by decide +kernel
theorem dX4_note_51 : decode cX4_note 51 = .ok (.bipush 71, 2) := by decide +kernel
theorem dX4_note_53 : decode cX4_note 53 = .ok (.if_icmp .ge 29, 3) := by decide +kernel
theorem dX4_note_56 : decode cX4_note 56 = .ok (.aload_n 0, 1) := by decide +kernel
theorem dX4_note_57 : decode cX4_note 57 = .ok (.getfield 13, 3) := by decide +kernel
theorem dX4_note_60 : decode cX4_note 60 = .ok (.bipush 71, 2) := by decide +kernel
theorem dX4_note_62 : decode cX4_note 62 = .ok (.aload_n 0, 1) := by decide +kernel
theorem dX4_note_63 : decode cX4_note 63 = .ok (.getfield 28, 3) := by decide +kernel
theorem dX4_note_66 : decode cX4_note 66 = .ok (.imul, 1) := by decide +kernel
theorem dX4_note_67 : decode cX4_note 67 = .ok (.iload_n 1, 1) := by decide +kernel
theorem dX4_note_68 : decode cX4_note 68 = .ok (.iadd, 1) := by decide +kernel
theorem dX4_note_69 : decode cX4_note 69 = .ok (.aload_n 0, 1) := by decide +kernel
theorem dX4_note_70 : decode cX4_note 70 = .ok (.getfield 7, 3) := by decide +kernel
theorem dX4_note_73 : decode cX4_note 73 = .ok (.iload_n 1, 1) := by decide +kernel
theorem dX4_note_74 : decode cX4_note 74 = .ok (.iaload, 1) := by decide +kernel
theorem dX4_note_75 : decode cX4_note 75 = .ok (.iastore, 1) := by decide +kernel
theorem dX4_note_76 : decode cX4_note 76 = .ok (.iinc 1 1, 3) := by decide +kernel
theorem dX4_note_79 : decode cX4_note 79 = .ok (.goto (-29), 3) := by decide +kernel
theorem dX4_note_82 : decode cX4_note 82 = .ok (.aload_n 0, 1) := by decide +kernel
theorem dX4_note_83 : decode cX4_note 83 = .ok (.dup, 1) := by decide +kernel
theorem dX4_note_84 : decode cX4_note 84 = .ok (.getfield 28, 3) := by decide +kernel
theorem dX4_note_87 : decode cX4_note 87 = .ok (.iconst 1, 1) := by decide +kernel
theorem dX4_note_88 : decode cX4_note 88 = .ok (.iadd, 1) := by decide +kernel
theorem dX4_note_89 : decode cX4_note 89 = .ok (.putfield 28, 3) := by decide +kernel
theorem dX4_note_92 : decode cX4_note 92 = .ok (.return_, 1) := by decide +kernel
theorem dX4_down_0 : decode cX4_down 0 = .ok (.lload_n 0, 1) := by decide +kernel
theorem dX4_down_1 : decode cX4_down 1 = .ok (.lload_n 2, 1) := by decide +kernel
theorem dX4_down_2 : decode cX4_down 2 = .ok (.ldiv, 1) := by decide +kernel
theorem dX4_down_3 : decode cX4_down 3 = .ok (.lstore 4, 2) := by decide +kernel
theorem dX4_down_5 : decode cX4_down 5 = .ok (.lload_n 0, 1) := by decide +kernel
theorem dX4_down_6 : decode cX4_down 6 = .ok (.lload_n 2, 1) := by decide +kernel
theorem dX4_down_7 : decode cX4_down 7 = .ok (.lrem, 1) := by decide +kernel
theorem dX4_down_8 : decode cX4_down 8 = .ok (.lconst 0, 1) := by decide +kernel
theorem dX4_down_9 : decode cX4_down 9 = .ok (.lcmp, 1) := by decide +kernel
theorem dX4_down_10 : decode cX4_down 10 = .ok (.ifCond .ge 10, 3) := by decide +kernel
theorem dX4_down_13 : decode cX4_down 13 = .ok (.lload 4, 2) := by decide +kernel
theorem dX4_down_15 : decode cX4_down 15 = .ok (.lconst 1, 1) := by decide +kernel
theorem dX4_down_16 : decode cX4_down 16 = .ok (.lsub, 1) := by decide +kernel
theorem dX4_down_17 : decode cX4_down 17 = .ok (.goto 5, 3) := by decide +kernel
theorem dX4_down_20 : decode cX4_down 20 = .ok (.lload 4, 2) := by decide +kernel
theorem dX4_down_22 : decode cX4_down 22 = .ok (.lreturn, 1) := by decide +kernel
set_option maxRecDepth 20000 in
theorem ggX4_mul_X4_down : GoodIn wsX4_mul wsX4_down := goodIn_r _ [6] (by decide +kernel) (by decide +kernel)
set_option maxRecDepth 20000 in
theorem gX4_mul_X4_down : GoodIn wsX4_mul (va_wsS RX4 36 yX4_down wsX4_down) := goodIn_app (goodIn_of _ (by decide +kernel)) ggX4_mul_X4_down
theorem dX4_mul_0 : decode cX4_mul 0 = .ok (.lload_n 0, 1) := by decide +kernel
theorem dX4_mul_1 : decode cX4_mul 1 = .ok (.lload_n 2, 1) := by decide +kernel
theorem dX4_mul_2 : decode cX4_mul 2 = .ok (.lmul, 1) := by decide +kernel
theorem dX4_mul_3 : decode cX4_mul 3 = .ok (.ldc2_w 32, 3) := by decide +kernel
theorem dX4_mul_6 : decode cX4_mul 6 = .ok (.ladd, 1) := by decide +kernel
theorem dX4_mul_7 : decode cX4_mul 7 = .ok (.ldc2_w 34, 3) := by decide +kernel
theorem dX4_mul_10 : decode cX4_mul 10 = .ok (.invokestatic 36, 3) := by decide +kernel
theorem dX4_mul_13 : decode cX4_mul 13 = .ok (.lreturn, 1) := by decide +kernel
set_option maxRecDepth 20000 in
theorem ggX4_div_X4_down : GoodIn wsX4_div wsX4_down := goodIn_r _ [6] (by decide +kernel) (by decide +kernel)
set_option maxRecDepth 20000 in
theorem gX4_div_X4_down : GoodIn wsX4_div (va_wsS RX4 36 yX4_down wsX4_down) := goodIn_app (goodIn_of _ (by decide +kernel)) ggX4_div_X4_down
theorem dX4_div_0 : decode cX4_div 0 = .ok (.lload_n 0, 1) := by decide +kernel
theorem dX4_div_1 : decode cX4_div 1 = .ok (.ldc2_w 34, 3) := by decide +kernel
theorem dX4_div_4 : decode cX4_div 4 = .ok (.lmul, 1) := by decide +kernel
theorem dX4_div_5 : decode cX4_div 5 = .ok (.lload_n 2, 1) := by decide +kernel
theorem dX4_div_6 : decode cX4_div 6 = .ok (.ldc2_w 40, 3) := by decide +kernel
theorem dX4_div_9 : decode cX4_div 9 = .ok (.invokestatic 36, 3) := by decide +kernel
theorem dX4_div_12 : decode cX4_div 12 = .ok (.ladd, 1) := by decide +kernel
theorem dX4_div_13 : decode cX4_div 13 = .ok (.lload_n 2, 1) := by decide +kernel
theorem dX4_div_14 : decode cX4_div 14 = .ok (.invokestatic 36, 3) := by decide +kernel
theorem dX4_div_17 : decode cX4_div 17 = .ok (.lreturn, 1) := by decide +kernel
theorem dX4_isIn_0 : decode cX4_isIn 0 = .ok (.lload_n 0, 1) := by decide +kernel
theorem dX4_isIn_1 : decode cX4_isIn 1 = .ok (.ldc2_w 42, 3) := by decide +kernel
theorem dX4_isIn_4 : decode cX4_isIn 4 = .ok (.lcmp, 1) := by decide +kernel
theorem dX4_isIn_5 : decode cX4_isIn 5 = .ok (.ifCond .lt 15, 3) := by decide +kernel
theorem dX4_isIn_8 : decode cX4_isIn 8 = .ok (.lload_n 0, 1) := by decide +kernel
theorem dX4_isIn_9 : decode cX4_isIn 9 = .ok (.ldc2_w 44, 3) := by decide +kernel
theorem dX4_isIn_12 : decode cX4_isIn 12 = .ok (.lcmp, 1) := by decide +kernel
theorem dX4_isIn_13 : decode cX4_isIn 13 = .ok (.ifCond .gt 7, 3) := by decide +kernel
theorem dX4_isIn_16 : decode cX4_isIn 16 = .ok (.iconst 1, 1) := by decide +kernel
theorem dX4_isIn_17 : decode cX4_isIn 17 = .ok (.goto 4, 3) := by decide +kernel
theorem dX4_isIn_20 : decode cX4_isIn 20 = .ok (.iconst 0, 1) := by decide +kernel
theorem dX4_isIn_21 : decode cX4_isIn 21 = .ok (.ireturn, 1) := by decide +kernel
theorem dX4_take_0 : decode cX4_take 0 = .ok (.iconst 0, 1) := by decide +kernel
theorem dX4_take_1 : decode cX4_take 1 = .ok (.istore_n 1, 1) := by decide +kernel
theorem dX4_take_2 : decode cX4_take 2 = .ok (.iload_n 1, 1) := by decide +kernel
theorem dX4_take_3 : decode cX4_take 3 = .ok (.iconst 5, 1) := by decide +kernel
theorem dX4_take_4 : decode cX4_take 4 = .ok (.if_icmp .ge 22, 3) := by decide +kernel
theorem dX4_take_7 : decode cX4_take 7 = .ok (.aload_n 0, 1) := by decide +kernel
theorem dX4_take_8 : decode cX4_take 8 = .ok (.getfield 19, 3) := by decide +kernel
theorem dX4_take_11 : decode cX4_take 11 = .ok (.iload_n 1, 1) := by decide +kernel
theorem dX4_take_12 : decode cX4_take 12 = .ok (.aload_n 0, 1) := by decide +kernel
theorem dX4_take_13 : decode cX4_take 13 = .ok (.getfield 7, 3) := by decide +kernel
theorem dX4_take_16 : decode cX4_take 16 = .ok (.iload_n 1, 1) := by decide +kernel
theorem dX4_take_17 : decode cX4_take 17 = .ok (.iaload, 1) := by decide +kernel
theorem dX4_take_18 : decode cX4_take 18 = .ok (.i2l, 1) := by decide +kernel
theorem dX4_take_19 : decode cX4_take 19 = .ok (.lastore, 1) := by decide +kernel
theorem dX4_take_20 : decode cX4_take 20 = .ok (.iinc 1 1, 3) := by decide +kernel
theorem dX4_take_23 : decode cX4_take 23 = .ok (.goto (-21), 3) := by decide +kernel
theorem dX4_take_26 : decode cX4_take 26 = .ok (.return_, 1) := by decide +kernel
theorem dX4_put_0 : decode cX4_put 0 = .ok (.iconst 0, 1) := by decide +kernel
theorem dX4_put_1 : decode cX4_put 1 = .ok (.istore_n 1, 1) := by decide +kernel
theorem dX4_put_2 : decode cX4_put 2 = .ok (.iload_n 1, 1) := by decide +kernel
theorem dX4_put_3 : decode cX4_put 3 = .ok (.iconst 5, 1) := by decide +kernel
theorem dX4_put_4 : decode cX4_put 4 = .ok (.if_icmp .ge 22, 3) := by decide +kernel
theorem dX4_put_7 : decode cX4_put 7 = .ok (.aload_n 0, 1) := by decide +kernel
theorem dX4_put_8 : decode cX4_put 8 = .ok (.getfield 7, 3) := by decide +kernel
theorem dX4_put_11 : decode cX4_put 11 = .ok (.iload_n 1, 1) := by decide +kernel
theorem dX4_put_12 : decode cX4_put 12 = .ok (.aload_n 0, 1) := by decide +kernel
theorem dX4_put_13 : decode cX4_put 13 = .ok (.getfield 19, 3) := by decide +kernel
theorem dX4_put_16 : decode cX4_put 16 = .ok (.iload_n 1, 1) := by decide +kernel
theorem dX4_put_17 : decode cX4_put 17 = .ok (.laload, 1) := by decide +kernel
theorem dX4_put_18 : decode cX4_put 18 = .ok (.l2i, 1) := by decide +kernel
theorem dX4_put_19 : decode cX4_put 19 = .ok (.iastore, 1) := by decide +kernel
theorem dX4_put_20 : decode cX4_put 20 = .ok (.iinc 1 1, 3) := by decide +kernel
theorem dX4_put_23 : decode cX4_put 23 = .ok (.goto (-21), 3) := by decide +kernel
theorem dX4_put_26 : decode cX4_put 26 = .ok (.return_, 1) := by decide +kernel
set_option maxRecDepth 20000 in
theorem ggX4_predicts_X4_isIn : GoodIn wsX4_predicts wsX4_isIn := goodIn_r _ [7, 8, 9] (by decide +kernel) (by decide +kernel)
set_option maxRecDepth 20000 in
theorem gX4_predicts_X4_isIn : GoodIn wsX4_predicts (va_wsS RX4 46 yX4_isIn wsX4_isIn) := goodIn_app (goodIn_of _ (by decide +kernel)) ggX4_predicts_X4_isIn
theorem dX4_predicts_0 : decode cX4_predicts 0 = .ok (.aload_n 0, 1) := by decide +kernel
theorem dX4_predicts_1 : decode cX4_predicts 1 = .ok (.getfield 19, 3) := by decide +kernel
theorem dX4_predicts_4 : decode cX4_predicts 4 = .ok (.iconst 0, 1) := by decide +kernel
theorem dX4_predicts_5 : decode cX4_predicts 5 = .ok (.laload, 1) := by decide +kernel
theorem dX4_predicts_6 : decode cX4_predicts 6 = .ok (.aload_n 0, 1) := by decide +kernel
theorem dX4_predicts_7 : decode cX4_predicts 7 = .ok (.getfield 19, 3) := by decide +kernel
theorem dX4_predicts_10 : decode cX4_predicts 10 = .ok (.iconst 1, 1) := by decide +kernel
theorem dX4_predicts_11 : decode cX4_predicts 11 = .ok (.laload, 1) := by decide +kernel
theorem dX4_predicts_12 : decode cX4_predicts 12 = .ok (.ladd, 1) := by decide +kernel
theorem dX4_predicts_13 : decode cX4_predicts 13 = .ok (.iload_n 1, 1) := by decide +kernel
theorem dX4_predicts_14 : decode cX4_predicts 14 = .ok (.i2l, 1) := by decide +kernel
theorem dX4_predicts_15 : decode cX4_predicts 15 = .ok (.ladd, 1) := by decide +kernel
theorem dX4_predicts_16 : decode cX4_predicts 16 = .ok (.lstore_n 3, 1) := by decide +kernel
theorem dX4_predicts_17 : decode cX4_predicts 17 = .ok (.aload_n 0, 1) := by decide +kernel
theorem dX4_predicts_18 : decode cX4_predicts 18 = .ok (.getfield 19, 3) := by decide +kernel
theorem dX4_predicts_21 : decode cX4_predicts 21 = .ok (.iconst 2, 1) := by decide +kernel
theorem dX4_predicts_22 : decode cX4_predicts 22 = .ok (.laload, 1) := by decide +kernel
theorem dX4_predicts_23 : decode cX4_predicts 23 = .ok (.ldc2_w 40, 3) := by decide +kernel
theorem dX4_predicts_26 : decode cX4_predicts 26 = .ok (.aload_n 0, 1) := by decide +kernel
theorem dX4_predicts_27 : decode cX4_predicts 27 = .ok (.getfield 19, 3) := by decide +kernel
theorem dX4_predicts_30 : decode cX4_predicts 30 = .ok (.iconst 3, 1) := by decide +kernel
theorem dX4_predicts_31 : decode cX4_predicts 31 = .ok (.laload, 1) := by decide +kernel
theorem dX4_predicts_32 : decode cX4_predicts 32 = .ok (.lmul, 1) := by decide +kernel
theorem dX4_predicts_33 : decode cX4_predicts 33 = .ok (.ladd, 1) := by decide +kernel
theorem dX4_predicts_34 : decode cX4_predicts 34 = .ok (.aload_n 0, 1) := by decide +kernel
theorem dX4_predicts_35 : decode cX4_predicts 35 = .ok (.getfield 19, 3) := by decide +kernel
theorem dX4_predicts_38 : decode cX4_predicts 38 = .ok (.iconst 4, 1) := by decide +kernel
theorem dX4_predicts_39 : decode cX4_predicts 39 = .ok (.laload, 1) := by decide +kernel
theorem dX4_predicts_40 : decode cX4_predicts 40 = .ok (.ladd, 1) := by decide +kernel
theorem dX4_predicts_41 : decode cX4_predicts 41 = .ok (.aload_n 0, 1) := by decide +kernel
theorem dX4_predicts_42 : decode cX4_predicts 42 = .ok (.getfield 7, 3) := by decide +kernel
theorem dX4_predicts_45 : decode cX4_predicts 45 = .ok (.iconst 5, 1) := by decide +kernel
theorem dX4_predicts_46 : decode cX4_predicts 46 = .ok (.iaload, 1) := by decide +kernel
theorem dX4_predicts_47 : decode cX4_predicts 47 = .ok (.i2l, 1) := by decide +kernel
theorem dX4_predicts_48 : decode cX4_predicts 48 = .ok (.ladd, 1) := by decide +kernel
theorem dX4_predicts_49 : decode cX4_predicts 49 = .ok (.lstore 5, 2) := by decide +kernel
theorem dX4_predicts_51 : decode cX4_predicts 51 = .ok (.aload_n 0, 1) := by decide +kernel
theorem dX4_predicts_52 : decode cX4_predicts 52 = .ok (.getfield 19, 3) := by decide +kernel
theorem dX4_predicts_55 : decode cX4_predicts 55 = .ok (.iconst 3, 1) := by decide +kernel
theorem dX4_predicts_56 : decode cX4_predicts 56 = .ok (.laload, 1) := by decide +kernel
theorem dX4_predicts_57 : decode cX4_predicts 57 = .ok (.aload_n 0, 1) := by decide +kernel
theorem dX4_predicts_58 : decode cX4_predicts 58 = .ok (.getfield 19, 3) := by decide +kernel
theorem dX4_predicts_61 : decode cX4_predicts 61 = .ok (.iconst 4, 1) := by decide +kernel
theorem dX4_predicts_62 : decode cX4_predicts 62 = .ok (.laload, 1) := by decide +kernel
theorem dX4_predicts_63 : decode cX4_predicts 63 = .ok (.ladd, 1) := by decide +kernel
theorem dX4_predicts_64 : decode cX4_predicts 64 = .ok (.lstore 7, 2) := by decide +kernel
theorem dX4_predicts_66 : decode cX4_predicts 66 = .ok (.aload_n 0, 1) := by decide +kernel
theorem dX4_predicts_67 : decode cX4_predicts 67 = .ok (.getfield 19, 3) := by decide +kernel
theorem dX4_predicts_70 : decode cX4_predicts 70 = .ok (.iconst 4, 1) := by decide +kernel
theorem dX4_predicts_71 : decode cX4_predicts 71 = .ok (.laload, 1) := by decide +kernel
theorem dX4_predicts_72 : decode cX4_predicts 72 = .ok (.iload_n 2, 1) := by decide +kernel
theorem dX4_predicts_73 : decode cX4_predicts 73 = .ok (.i2l, 1) := by decide +kernel
theorem dX4_predicts_74 : decode cX4_predicts 74 = .ok (.ladd, 1) := by decide +kernel
theorem dX4_predicts_75 : decode cX4_predicts 75 = .ok (.lstore 9, 2) := by decide +kernel
theorem dX4_predicts_77 : decode cX4_predicts 77 = .ok (.lload 5, 2) := by decide +kernel
theorem dX4_predicts_79 : decode cX4_predicts 79 = .ok (.lconst 0, 1) := by decide +kernel
theorem dX4_predicts_80 : decode cX4_predicts 80 = .ok (.lcmp, 1) := by decide +kernel
theorem dX4_predicts_81 : decode cX4_predicts 81 = .ok (.ifCond .ge 7, 3) := by decide +kernel
theorem dX4_predicts_84 : decode cX4_predicts 84 = .ok (.lconst 0, 1) := by decide +kernel
theorem dX4_predicts_85 : decode cX4_predicts 85 = .ok (.goto 5, 3) := by decide +kernel
theorem dX4_predicts_88 : decode cX4_predicts 88 = .ok (.lload 5, 2) := by decide +kernel
theorem dX4_predicts_90 : decode cX4_predicts 90 = .ok (.lstore 5, 2) := by decide +kernel
theorem dX4_predicts_92 : decode cX4_predicts 92 = .ok (.lload_n 3, 1) := by decide +kernel
theorem dX4_predicts_93 : decode cX4_predicts 93 = .ok (.invokestatic 46, 3) := by decide +kernel
theorem dX4_predicts_96 : decode cX4_predicts 96 = .ok (.ifCond .eq 27, 3) := by decide +kernel
theorem dX4_predicts_99 : decode cX4_predicts 99 = .ok (.lload 5, 2) := by decide +kernel
theorem dX4_predicts_101 : decode cX4_predicts 101 = .ok (.invokestatic 46, 3) := by decide +kernel
theorem dX4_predicts_104 : decode cX4_predicts 104 = .ok (.ifCond .eq 19, 3) := by decide +kernel
theorem dX4_predicts_107 : decode cX4_predicts 107 = .ok (.lload 7, 2) := by decide +kernel
theorem dX4_predicts_109 : decode cX4_predicts 109 = .ok (.invokestatic 46, 3) := by decide +kernel
theorem dX4_predicts_112 : decode cX4_predicts 112 = .ok (.ifCond .eq 11, 3) := by decide +kernel
theorem dX4_predicts_115 : decode cX4_predicts 115 = .ok (.lload 9, 2) := by decide +kernel
theorem dX4_predicts_117 : decode cX4_predicts 117 = .ok (.invokestatic 46, 3) := by decide +kernel
theorem dX4_predicts_120 : decode cX4_predicts 120 = .ok (.ifCond .ne 5, 3) := by decide +kernel
theorem dX4_predicts_123 : decode cX4_predicts 123 = .ok (.iconst 0, 1) := by decide +kernel
theorem dX4_predicts_124 : decode cX4_predicts 124 = .ok (.ireturn, 1) := by decide +kernel
theorem dX4_predicts_125 : decode cX4_predicts 125 = .ok (.aload_n 0, 1) := by decide +kernel
theorem dX4_predicts_126 : decode cX4_predicts 126 = .ok (.getfield 19, 3) := by decide +kernel
theorem dX4_predicts_129 : decode cX4_predicts 129 = .ok (.iconst 0, 1) := by decide +kernel
theorem dX4_predicts_130 : decode cX4_predicts 130 = .ok (.lload_n 3, 1) := by decide +kernel
theorem dX4_predicts_131 : decode cX4_predicts 131 = .ok (.lastore, 1) := by decide +kernel
theorem dX4_predicts_132 : decode cX4_predicts 132 = .ok (.aload_n 0, 1) := by decide +kernel
theorem dX4_predicts_133 : decode cX4_predicts 133 = .ok (.getfield 19, 3) := by decide +kernel
theorem dX4_predicts_136 : decode cX4_predicts 136 = .ok (.iconst 2, 1) := by decide +kernel
theorem dX4_predicts_137 : decode cX4_predicts 137 = .ok (.lload 5, 2) := by decide +kernel
theorem dX4_predicts_139 : decode cX4_predicts 139 = .ok (.lastore, 1) := by decide +kernel
theorem dX4_predicts_140 : decode cX4_predicts 140 = .ok (.aload_n 0, 1) := by decide +kernel
theorem dX4_predicts_141 : decode cX4_predicts 141 = .ok (.getfield 19, 3) := by decide +kernel
theorem dX4_predicts_144 : decode cX4_predicts 144 = .ok (.iconst 3, 1) := by decide +kernel
theorem dX4_predicts_145 : decode cX4_predicts 145 = .ok (.lload 7, 2) := by decide +kernel
theorem dX4_predicts_147 : decode cX4_predicts 147 = .ok (.lastore, 1) := by decide +kernel
theorem dX4_predicts_148 : decode cX4_predicts 148 = .ok (.aload_n 0, 1) := by decide +kernel
theorem dX4_predicts_149 : decode cX4_predicts 149 = .ok (.getfield 19, 3) := by decide +kernel
theorem dX4_predicts_152 : decode cX4_predicts 152 = .ok (.iconst 4, 1) := by decide +kernel
theorem dX4_predicts_153 : decode cX4_predicts 153 = .ok (.lload 9, 2) := by decide +kernel
theorem dX4_predicts_155 : decode cX4_predicts 155 = .ok (.lastore, 1) := by decide +kernel
theorem dX4_predicts_156 : decode cX4_predicts 156 = .ok (.iconst 1, 1) := by decide +kernel
theorem dX4_predicts_157 : decode cX4_predicts 157 = .ok (.ireturn, 1) := by decide +kernel
set_option maxRecDepth 20000 in
theorem ggX4_corrects_X4_div : GoodIn wsX4_corrects wsX4_div := goodIn_r _ [10, 4, 11, 12, 13, 9, 14] (by decide +kernel) (by decide +kernel)
set_option maxRecDepth 20000 in
theorem gX4_corrects_X4_div : GoodIn wsX4_corrects (va_wsS RX4 54 yX4_div wsX4_div) := goodIn_app (goodIn_of _ (by decide +kernel)) ggX4_corrects_X4_div
set_option maxRecDepth 20000 in
theorem ggX4_corrects_X4_isIn : GoodIn wsX4_corrects wsX4_isIn := goodIn_r _ [17, 18, 19] (by decide +kernel) (by decide +kernel)
set_option maxRecDepth 20000 in
theorem gX4_corrects_X4_isIn : GoodIn wsX4_corrects (va_wsS RX4 46 yX4_isIn wsX4_isIn) := goodIn_app (goodIn_of _ (by decide +kernel)) ggX4_corrects_X4_isIn
set_option maxRecDepth 20000 in
theorem ggX4_corrects_X4_mul : GoodIn wsX4_corrects wsX4_mul := goodIn_r _ [22, 23, 4, 12, 13, 9, 14] (by decide +kernel) (by decide +kernel)
set_option maxRecDepth 20000 in
theorem gX4_corrects_X4_mul : GoodIn wsX4_corrects (va_wsS RX4 57 yX4_mul wsX4_mul) := goodIn_app (goodIn_of _ (by decide +kernel)) ggX4_corrects_X4_mul
theorem dX4_corrects_0 : decode cX4_corrects 0 = .ok (.aload_n 0, 1) := by decide +kernel
theorem dX4_corrects_1 : decode cX4_corrects 1 = .ok (.getfield 7, 3) := by decide +kernel
theorem dX4_corrects_4 : decode cX4_corrects 4 = .ok (.bipush 8, 2) := by decide +kernel
theorem dX4_corrects_6 : decode cX4_corrects 6 = .ok (.iload_n 1, 1) := by decide +kernel
theorem dX4_corrects_7 : decode cX4_corrects 7 = .ok (.iadd, 1) := by decide +kernel
theorem dX4_corrects_8 : decode cX4_corrects 8 = .ok (.iaload, 1) := by decide +kernel
theorem dX4_corrects_9 : decode cX4_corrects 9 = .ok (.ifCond .ne 7, 3) := by decide +kernel
theorem dX4_corrects_12 : decode cX4_corrects 12 = .ok (.iconst 1, 1) := by decide +kernel
theorem dX4_corrects_13 : decode cX4_corrects 13 = .ok (.goto 4, 3) := by decide +kernel
theorem dX4_corrects_16 : decode cX4_corrects 16 = .ok (.iconst 0, 1) := by decide +kernel
theorem dX4_corrects_17 : decode cX4_corrects 17 = .ok (.istore 5, 2) := by decide +kernel
theorem dX4_corrects_19 : decode cX4_corrects 19 = .ok (.lload_n 2, 1) := by decide +kernel
theorem dX4_corrects_20 : decode cX4_corrects 20 = .ok (.iload 5, 2) := by decide +kernel
theorem dX4_corrects_22 : decode cX4_corrects 22 = .ok (.ifCond .eq 12, 3) := by decide +kernel
theorem dX4_corrects_25 : decode cX4_corrects 25 = .ok (.aload_n 0, 1) := by decide +kernel
theorem dX4_corrects_26 : decode cX4_corrects 26 = .ok (.getfield 19, 3) := by decide +kernel
theorem dX4_corrects_29 : decode cX4_corrects 29 = .ok (.iconst 0, 1) := by decide +kernel
theorem dX4_corrects_30 : decode cX4_corrects 30 = .ok (.laload, 1) := by decide +kernel
theorem dX4_corrects_31 : decode cX4_corrects 31 = .ok (.goto 9, 3) := by decide +kernel
theorem dX4_corrects_34 : decode cX4_corrects 34 = .ok (.aload_n 0, 1) := by decide +kernel
theorem dX4_corrects_35 : decode cX4_corrects 35 = .ok (.getfield 19, 3) := by decide +kernel
theorem dX4_corrects_38 : decode cX4_corrects 38 = .ok (.iconst 1, 1) := by decide +kernel
theorem dX4_corrects_39 : decode cX4_corrects 39 = .ok (.laload, 1) := by decide +kernel
theorem dX4_corrects_40 : decode cX4_corrects 40 = .ok (.lsub, 1) := by decide +kernel
theorem dX4_corrects_41 : decode cX4_corrects 41 = .ok (.lstore 6, 2) := by decide +kernel
theorem dX4_corrects_43 : decode cX4_corrects 43 = .ok (.iload 5, 2) := by decide +kernel
theorem dX4_corrects_45 : decode cX4_corrects 45 = .ok (.ifCond .eq 12, 3) := by decide +kernel
theorem dX4_corrects_48 : decode cX4_corrects 48 = .ok (.aload_n 0, 1) := by decide +kernel
theorem dX4_corrects_49 : decode cX4_corrects 49 = .ok (.getfield 19, 3) := by decide +kernel
theorem dX4_corrects_52 : decode cX4_corrects 52 = .ok (.iconst 2, 1) := by decide +kernel
theorem dX4_corrects_53 : decode cX4_corrects 53 = .ok (.laload, 1) := by decide +kernel
theorem dX4_corrects_54 : decode cX4_corrects 54 = .ok (.goto 9, 3) := by decide +kernel
theorem dX4_corrects_57 : decode cX4_corrects 57 = .ok (.aload_n 0, 1) := by decide +kernel
theorem dX4_corrects_58 : decode cX4_corrects 58 = .ok (.getfield 19, 3) := by decide +kernel
theorem dX4_corrects_61 : decode cX4_corrects 61 = .ok (.iconst 4, 1) := by decide +kernel
theorem dX4_corrects_62 : decode cX4_corrects 62 = .ok (.laload, 1) := by decide +kernel
theorem dX4_corrects_63 : decode cX4_corrects 63 = .ok (.aload_n 0, 1) := by decide +kernel
theorem dX4_corrects_64 : decode cX4_corrects 64 = .ok (.getfield 7, 3) := by decide +kernel
theorem dX4_corrects_67 : decode cX4_corrects 67 = .ok (.bipush 12, 2) := by decide +kernel
theorem dX4_corrects_69 : decode cX4_corrects 69 = .ok (.iload_n 1, 1) := by decide +kernel
theorem dX4_corrects_70 : decode cX4_corrects 70 = .ok (.iadd, 1) := by decide +kernel
theorem dX4_corrects_71 : decode cX4_corrects 71 = .ok (.iaload, 1) := by decide +kernel
theorem dX4_corrects_72 : decode cX4_corrects 72 = .ok (.i2l, 1) := by decide +kernel
theorem dX4_corrects_73 : decode cX4_corrects 73 = .ok (.ladd, 1) := by decide +kernel
theorem dX4_corrects_74 : decode cX4_corrects 74 = .ok (.lstore 8, 2) := by decide +kernel
theorem dX4_corrects_76 : decode cX4_corrects 76 = .ok (.aload_n 0, 1) := by decide +kernel
theorem dX4_corrects_77 : decode cX4_corrects 77 = .ok (.lload 6, 2) := by decide +kernel
theorem dX4_corrects_79 : decode cX4_corrects 79 = .ok (.putfield 50, 3) := by decide +kernel
theorem dX4_corrects_82 : decode cX4_corrects 82 = .ok (.iload 4, 2) := by decide +kernel
theorem dX4_corrects_84 : decode cX4_corrects 84 = .ok (.ifCond .eq 24, 3) := by decide +kernel
theorem dX4_corrects_87 : decode cX4_corrects 87 = .ok (.lload 6, 2) := by decide +kernel
theorem dX4_corrects_89 : decode cX4_corrects 89 = .ok (.lload 6, 2) := by decide +kernel
theorem dX4_corrects_91 : decode cX4_corrects 91 = .ok (.lmul, 1) := by decide +kernel
theorem dX4_corrects_92 : decode cX4_corrects 92 = .ok (.iload 4, 2) := by decide +kernel
theorem dX4_corrects_94 : decode cX4_corrects 94 = .ok (.i2l, 1) := by decide +kernel
theorem dX4_corrects_95 : decode cX4_corrects 95 = .ok (.lload 8, 2) := by decide +kernel
theorem dX4_corrects_97 : decode cX4_corrects 97 = .ok (.lmul, 1) := by decide +kernel
theorem dX4_corrects_98 : decode cX4_corrects 98 = .ok (.ldc2_w 34, 3) := by decide +kernel
theorem dX4_corrects_101 : decode cX4_corrects 101 = .ok (.lmul, 1) := by decide +kernel
theorem dX4_corrects_102 : decode cX4_corrects 102 = .ok (.lcmp, 1) := by decide +kernel
theorem dX4_corrects_103 : decode cX4_corrects 103 = .ok (.ifCond .le 5, 3) := by decide +kernel
theorem dX4_corrects_106 : decode cX4_corrects 106 = .ok (.iconst 0, 1) := by decide +kernel
theorem dX4_corrects_107 : decode cX4_corrects 107 = .ok (.ireturn, 1) := by decide +kernel
theorem dX4_corrects_108 : decode cX4_corrects 108 = .ok (.iload 5, 2) := by decide +kernel
theorem dX4_corrects_110 : decode cX4_corrects 110 = .ok (.ifCond .eq 12, 3) := by decide +kernel
theorem dX4_corrects_113 : decode cX4_corrects 113 = .ok (.aload_n 0, 1) := by decide +kernel
theorem dX4_corrects_114 : decode cX4_corrects 114 = .ok (.getfield 19, 3) := by decide +kernel
theorem dX4_corrects_117 : decode cX4_corrects 117 = .ok (.iconst 2, 1) := by decide +kernel
theorem dX4_corrects_118 : decode cX4_corrects 118 = .ok (.laload, 1) := by decide +kernel
theorem dX4_corrects_119 : decode cX4_corrects 119 = .ok (.goto 9, 3) := by decide +kernel
theorem dX4_corrects_122 : decode cX4_corrects 122 = .ok (.aload_n 0, 1) := by decide +kernel
theorem dX4_corrects_123 : decode cX4_corrects 123 = .ok (.getfield 19, 3) := by decide +kernel
theorem dX4_corrects_126 : decode cX4_corrects 126 = .ok (.iconst 3, 1) := by decide +kernel
theorem dX4_corrects_127 : decode cX4_corrects 127 = .ok (.laload, 1) := by decide +kernel
theorem dX4_corrects_128 : decode cX4_corrects 128 = .ok (.lload 8, 2) := by decide +kernel
theorem dX4_corrects_130 : decode cX4_corrects 130 = .ok (.invokestatic 54, 3) := by decide +kernel
theorem dX4_corrects_133 : decode cX4_corrects 133 = .ok (.lstore 10, 2) := by decide +kernel
theorem dX4_corrects_135 : decode cX4_corrects 135 = .ok (.iload 5, 2) := by decide +kernel
theorem dX4_corrects_137 : decode cX4_corrects 137 = .ok (.ifCond .eq 12, 3) := by decide +kernel
theorem dX4_corrects_140 : decode cX4_corrects 140 = .ok (.aload_n 0, 1) := by decide +kernel
theorem dX4_corrects_141 : decode cX4_corrects 141 = .ok (.getfield 19, 3) := by decide +kernel
theorem dX4_corrects_144 : decode cX4_corrects 144 = .ok (.iconst 3, 1) := by decide +kernel
theorem dX4_corrects_145 : decode cX4_corrects 145 = .ok (.laload, 1) := by decide +kernel
theorem dX4_corrects_146 : decode cX4_corrects 146 = .ok (.goto 9, 3) := by decide +kernel
theorem dX4_corrects_149 : decode cX4_corrects 149 = .ok (.aload_n 0, 1) := by decide +kernel
theorem dX4_corrects_150 : decode cX4_corrects 150 = .ok (.getfield 19, 3) := by decide +kernel
theorem dX4_corrects_153 : decode cX4_corrects 153 = .ok (.iconst 4, 1) := by decide +kernel
theorem dX4_corrects_154 : decode cX4_corrects 154 = .ok (.laload, 1) := by decide +kernel
theorem dX4_corrects_155 : decode cX4_corrects 155 = .ok (.lload 8, 2) := by decide +kernel
theorem dX4_corrects_157 : decode cX4_corrects 157 = .ok (.invokestatic 54, 3) := by decide +kernel
theorem dX4_corrects_160 : decode cX4_corrects 160 = .ok (.lstore 12, 2) := by decide +kernel
theorem dX4_corrects_162 : decode cX4_corrects 162 = .ok (.lload 10, 2) := by decide +kernel
theorem dX4_corrects_164 : decode cX4_corrects 164 = .ok (.invokestatic 46, 3) := by decide +kernel
theorem dX4_corrects_167 : decode cX4_corrects 167 = .ok (.ifCond .eq 11, 3) := by decide +kernel
theorem dX4_corrects_170 : decode cX4_corrects 170 = .ok (.lload 12, 2) := by decide +kernel
theorem dX4_corrects_172 : decode cX4_corrects 172 = .ok (.invokestatic 46, 3) := by decide +kernel
theorem dX4_corrects_175 : decode cX4_corrects 175 = .ok (.ifCond .ne 5, 3) := by decide +kernel
theorem dX4_corrects_178 : decode cX4_corrects 178 = .ok (.iconst (-1), 1) := by decide +kernel
theorem dX4_corrects_179 : decode cX4_corrects 179 = .ok (.ireturn, 1) := by decide +kernel
theorem dX4_corrects_180 : decode cX4_corrects 180 = .ok (.aload_n 0, 1) := by decide +kernel
theorem dX4_corrects_181 : decode cX4_corrects 181 = .ok (.getfield 19, 3) := by decide +kernel
theorem dX4_corrects_184 : decode cX4_corrects 184 = .ok (.iconst 0, 1) := by decide +kernel
theorem dX4_corrects_185 : decode cX4_corrects 185 = .ok (.laload, 1) := by decide +kernel
theorem dX4_corrects_186 : decode cX4_corrects 186 = .ok (.lload 10, 2) := by decide +kernel
theorem dX4_corrects_188 : decode cX4_corrects 188 = .ok (.lload 6, 2) := by decide +kernel
theorem dX4_corrects_190 : decode cX4_corrects 190 = .ok (.invokestatic 57, 3) := by decide +kernel
theorem dX4_corrects_193 : decode cX4_corrects 193 = .ok (.ladd, 1) := by decide +kernel
theorem dX4_corrects_194 : decode cX4_corrects 194 = .ok (.lstore 14, 2) := by decide +kernel
theorem dX4_corrects_196 : decode cX4_corrects 196 = .ok (.aload_n 0, 1) := by decide +kernel
theorem dX4_corrects_197 : decode cX4_corrects 197 = .ok (.getfield 19, 3) := by decide +kernel
theorem dX4_corrects_200 : decode cX4_corrects 200 = .ok (.iconst 1, 1) := by decide +kernel
theorem dX4_corrects_201 : decode cX4_corrects 201 = .ok (.laload, 1) := by decide +kernel
theorem dX4_corrects_202 : decode cX4_corrects 202 = .ok (.lload 12, 2) := by decide +kernel
theorem dX4_corrects_204 : decode cX4_corrects 204 = .ok (.lload 6, 2) := by decide +kernel
theorem dX4_corrects_206 : decode cX4_corrects 206 = .ok (.invokestatic 57, 3) := by decide +kernel
theorem dX4_corrects_209 : decode cX4_corrects 209 = .ok (.ladd, 1) := by decide +kernel
theorem dX4_corrects_210 : decode cX4_corrects 210 = .ok (.lstore 16, 2) := by decide +kernel
theorem dX4_corrects_212 : decode cX4_corrects 212 = .ok (.aload_n 0, 1) := by decide +kernel
