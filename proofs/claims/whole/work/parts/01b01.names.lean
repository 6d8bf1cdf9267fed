theorem dX0_mixLatestReadingInto_26 : decode cX0_mixLatestReadingInto 26 = .ok (.lreturn, 1) := by decide +kernel
theorem dX1_init_0 : decode cX1_init 0 = .ok (.aload_n 0, 1) := by decide +kernel
theorem dX1_init_1 : decode cX1_init 1 = .ok (.invokespecial 3, 3) := by decide +kernel
theorem dX1_init_4 : decode cX1_init 4 = .ok (.aload_n 0, 1) := by decide +kernel
theorem dX1_init_5 : decode cX1_init 5 = .ok (.bipush 24, 2) := by decide +kernel
theorem dX1_init_7 : decode cX1_init 7 = .ok (.newarray .int, 2) := by decide +kernel
theorem dX1_init_9 : decode cX1_init 9 = .ok (.putfield 9, 3) := by decide +kernel
theorem dX1_init_12 : decode cX1_init 12 = .ok (.aload_n 0, 1) := by decide +kernel
theorem dX1_init_13 : decode cX1_init 13 = .ok (.bipush 24, 2) := by decide +kernel
theorem dX1_init_15 : decode cX1_init 15 = .ok (.newarray .int, 2) := by decide +kernel
theorem dX1_init_17 : decode cX1_init 17 = .ok (.putfield 15, 3) := by decide +kernel
theorem dX1_init_20 : decode cX1_init 20 = .ok (.aload_n 0, 1) := by decide +kernel
theorem dX1_init_21 : decode cX1_init 21 = .ok (.iconst 0, 1) := by decide +kernel
theorem dX1_init_22 : decode cX1_init 22 = .ok (.putfield 18, 3) := by decide +kernel
theorem dX1_init_25 : decode cX1_init 25 = .ok (.return_, 1) := by decide +kernel
set_option maxRecDepth 20000 in
theorem ggX1_append_X1_dropOldest : GoodIn wsX1_append wsX1_dropOldest := goodIn_r _ [8, 2, 3, 1, 9, 10, 11] (by decide +kernel) (by decide +kernel)
set_option maxRecDepth 20000 in
theorem gX1_append_X1_dropOldest : GoodIn wsX1_append (wsV RX1 22 RX1 yX1_dropOldest wsX1_dropOldest) := goodIn_app (goodIn_of _ (by decide +kernel)) ggX1_append_X1_dropOldest
theorem dX1_append_0 : decode cX1_append 0 = .ok (.aload_n 0, 1) := by decide +kernel
theorem dX1_append_1 : decode cX1_append 1 = .ok (.getfield 18, 3) := by decide +kernel
theorem dX1_append_4 : decode cX1_append 4 = .ok (.bipush 24, 2) := by decide +kernel
theorem dX1_append_6 : decode cX1_append 6 = .ok (.if_icmp .lt 7, 3) := by decide +kernel
theorem dX1_append_9 : decode cX1_append 9 = .ok (.aload_n 0, 1) := by decide +kernel
theorem dX1_append_10 : decode cX1_append 10 = .ok (.invokevirtual 22, 3) := by decide +kernel
theorem dX1_append_13 : decode cX1_append 13 = .ok (.aload_n 0, 1) := by decide +kernel
theorem dX1_append_14 : decode cX1_append 14 = .ok (.getfield 18, 3) := by decide +kernel
theorem dX1_append_17 : decode cX1_append 17 = .ok (.ifCond .lt 42, 3) := by decide +kernel
theorem dX1_append_20 : decode cX1_append 20 = .ok (.aload_n 0, 1) := by decide +kernel
theorem dX1_append_21 : decode cX1_append 21 = .ok (.getfield 18, 3) := by decide +kernel
theorem dX1_append_24 : decode cX1_append 24 = .ok (.bipush 24, 2) := by decide +kernel
theorem dX1_append_26 : decode cX1_append 26 = .ok (.if_icmp .ge 33, 3) := by decide +kernel
theorem dX1_append_29 : decode cX1_append 29 = .ok (.aload_n 0, 1) := by decide +kernel
theorem dX1_append_30 : decode cX1_append 30 = .ok (.getfield 9, 3) := by decide +kernel
theorem dX1_append_33 : decode cX1_append 33 = .ok (.aload_n 0, 1) := by decide +kernel
theorem dX1_append_34 : decode cX1_append 34 = .ok (.getfield 18, 3) := by decide +kernel
theorem dX1_append_37 : decode cX1_append 37 = .ok (.iload_n 1, 1) := by decide +kernel
theorem dX1_append_38 : decode cX1_append 38 = .ok (.iastore, 1) := by decide +kernel
theorem dX1_append_39 : decode cX1_append 39 = .ok (.aload_n 0, 1) := by decide +kernel
theorem dX1_append_40 : decode cX1_append 40 = .ok (.getfield 15, 3) := by decide +kernel
theorem dX1_append_43 : decode cX1_append 43 = .ok (.aload_n 0, 1) := by decide +kernel
theorem dX1_append_44 : decode cX1_append 44 = .ok (.getfield 18, 3) := by decide +kernel
theorem dX1_append_47 : decode cX1_append 47 = .ok (.iload_n 2, 1) := by decide +kernel
theorem dX1_append_48 : decode cX1_append 48 = .ok (.iastore, 1) := by decide +kernel
theorem dX1_append_49 : decode cX1_append 49 = .ok (.aload_n 0, 1) := by decide +kernel
theorem dX1_append_50 : decode cX1_append 50 = .ok (.dup, 1) := by decide +kernel
theorem dX1_append_51 : decode cX1_append 51 = .ok (.getfield 18, 3) := by decide +kernel
theorem dX1_append_54 : decode cX1_append 54 = .ok (.iconst 1, 1) := by decide +kernel
theorem dX1_append_55 : decode cX1_append 55 = .ok (.iadd, 1) := by decide +kernel
theorem dX1_append_56 : decode cX1_append 56 = .ok (.putfield 18, 3) := by decide +kernel
theorem dX1_append_59 : decode cX1_append 59 = .ok (.return_, 1) := by decide +kernel
theorem dX1_dropOldest_0 : decode cX1_dropOldest 0 = .ok (.iconst 1, 1) := by decide +kernel
theorem dX1_dropOldest_1 : decode cX1_dropOldest 1 = .ok (.istore_n 1, 1) := by decide +kernel
theorem dX1_dropOldest_2 : decode cX1_dropOldest 2 = .ok (.iload_n 1, 1) := by decide +kernel
theorem dX1_dropOldest_3 : decode cX1_dropOldest 3 = .ok (.bipush 24, 2) := by decide +kernel
theorem dX1_dropOldest_5 : decode cX1_dropOldest 5 = .ok (.if_icmp .ge 37, 3) := by decide +kernel
theorem dX1_dropOldest_8 : decode cX1_dropOldest 8 = .ok (.aload_n 0, 1) := by decide +kernel
theorem dX1_dropOldest_9 : decode cX1_dropOldest 9 = .ok (.getfield 9, 3) := by decide +kernel
theorem dX1_dropOldest_12 : decode cX1_dropOldest 12 = .ok (.iload_n 1, 1) := by decide +kernel
theorem dX1_dropOldest_13 : decode cX1_dropOldest 13 = .ok (.iconst 1, 1) := by decide +kernel
theorem dX1_dropOldest_14 : decode cX1_dropOldest 14 = .ok (.isub, 1) := by decide +kernel
theorem dX1_dropOldest_15 : decode cX1_dropOldest 15 = .ok (.aload_n 0, 1) := by decide +kernel
theorem dX1_dropOldest_16 : decode cX1_dropOldest 16 = .ok (.getfield 9, 3) := by decide +kernel
theorem dX1_dropOldest_19 : decode cX1_dropOldest 19 = .ok (.iload_n 1, 1) := by decide +kernel
theorem dX1_dropOldest_20 : decode cX1_dropOldest 20 = .ok (.iaload, 1) := by decide +kernel
theorem dX1_dropOldest_21 : decode cX1_dropOldest 21 = .ok (.iastore, 1) := by decide +kernel
theorem dX1_dropOldest_22 : decode cX1_dropOldest 22 = .ok (.aload_n 0, 1) := by decide +kernel
theorem dX1_dropOldest_23 : decode cX1_dropOldest 23 = .ok (.getfield 15, 3) := by decide +kernel
theorem dX1_dropOldest_26 : decode cX1_dropOldest 26 = .ok (.iload_n 1, 1) := by decide +kernel
theorem dX1_dropOldest_27 : decode cX1_dropOldest 27 = .ok (.iconst 1, 1) := by decide +kernel
theorem dX1_dropOldest_28 : decode cX1_dropOldest 28 = .ok (.isub, 1) := by decide +kernel
theorem dX1_dropOldest_29 : decode cX1_dropOldest 29 = .ok (.aload_n 0, 1) := by decide +kernel
theorem dX1_dropOldest_30 : decode cX1_dropOldest 30 = .ok (.getfield 15, 3) := by decide +kernel
theorem dX1_dropOldest_33 : decode cX1_dropOldest 33 = .ok (.iload_n 1, 1) := by decide +kernel
theorem dX1_dropOldest_34 : decode cX1_dropOldest 34 = .ok (.iaload, 1) := by decide +kernel
theorem dX1_dropOldest_35 : decode cX1_dropOldest 35 = .ok (.iastore, 1) := by decide +kernel
theorem dX1_dropOldest_36 : decode cX1_dropOldest 36 = .ok (.iinc 1 1, 3) := by decide +kernel
theorem dX1_dropOldest_39 : decode cX1_dropOldest 39 = .ok (.goto (-37), 3) := by decide +kernel
theorem dX1_dropOldest_42 : decode cX1_dropOldest 42 = .ok (.aload_n 0, 1) := by decide +kernel
theorem dX1_dropOldest_43 : decode cX1_dropOldest 43 = .ok (.bipush 23, 2) := by decide +kernel
theorem dX1_dropOldest_45 : decode cX1_dropOldest 45 = .ok (.putfield 18, 3) := by decide +kernel
theorem dX1_dropOldest_48 : decode cX1_dropOldest 48 = .ok (.return_, 1) := by decide +kernel
theorem dX1_hasReading_0 : decode cX1_hasReading 0 = .ok (.iconst 0, 1) := by decide +kernel
theorem dX1_hasReading_1 : decode cX1_hasReading 1 = .ok (.istore_n 1, 1) := by decide +kernel
theorem dX1_hasReading_2 : decode cX1_hasReading 2 = .ok (.iload_n 1, 1) := by decide +kernel
theorem dX1_hasReading_3 : decode cX1_hasReading 3 = .ok (.aload_n 0, 1) := by decide +kernel
theorem dX1_hasReading_4 : decode cX1_hasReading 4 = .ok (.getfield 18, 3) := by decide +kernel
theorem dX1_hasReading_7 : decode cX1_hasReading 7 = .ok (.if_icmp .ge 27, 3) := by decide +kernel
theorem dX1_hasReading_10 : decode cX1_hasReading 10 = .ok (.iload_n 1, 1) := by decide +kernel
theorem dX1_hasReading_11 : decode cX1_hasReading 11 = .ok (.bipush 24, 2) := by decide +kernel
theorem dX1_hasReading_13 : decode cX1_hasReading 13 = .ok (.if_icmp .ge 21, 3) := by decide +kernel
theorem dX1_hasReading_16 : decode cX1_hasReading 16 = .ok (.aload_n 0, 1) := by decide +kernel
theorem dX1_hasReading_17 : decode cX1_hasReading 17 = .ok (.getfield 9, 3) := by decide +kernel
theorem dX1_hasReading_20 : decode cX1_hasReading 20 = .ok (.iload_n 1, 1) := by decide +kernel
theorem dX1_hasReading_21 : decode cX1_hasReading 21 = .ok (.iaload, 1) := by decide +kernel
theorem dX1_hasReading_22 : decode cX1_hasReading 22 = .ok (.iconst (-1), 1) := by decide +kernel
theorem dX1_hasReading_23 : decode cX1_hasReading 23 = .ok (.if_icmp .eq 5, 3) := by decide +kernel
theorem dX1_hasReading_26 : decode cX1_hasReading 26 = .ok (.iconst 1, 1) := by decide +kernel
theorem dX1_hasReading_27 : decode cX1_hasReading 27 = .ok (.ireturn, 1) := by decide +kernel
theorem dX1_hasReading_28 : decode cX1_hasReading 28 = .ok (.iinc 1 1, 3) := by decide +kernel
theorem dX1_hasReading_31 : decode cX1_hasReading 31 = .ok (.goto (-29), 3) := by decide +kernel
theorem dX1_hasReading_34 : decode cX1_hasReading 34 = .ok (.iconst 0, 1) := by decide +kernel
theorem dX1_hasReading_35 : decode cX1_hasReading 35 = .ok (.ireturn, 1) := by decide +kernel
set_option maxRecDepth 20000 in
theorem ggX1_copyFrom_X3_copyRow : GoodIn wsX1_copyFrom wsX3_copyRow := goodIn_r _ [6] (by decide +kernel) (by decide +kernel)
set_option maxRecDepth 20000 in
theorem gX1_copyFrom_X3_copyRow_n25 : GoodIn wsX1_copyFrom (wsX3_copyRow) := ggX1_copyFrom_X3_copyRow
theorem dX1_copyFrom_0 : decode cX1_copyFrom 0 = .ok (.aload_n 1, 1) := by decide +kernel
theorem dX1_copyFrom_1 : decode cX1_copyFrom 1 = .ok (.getfield 9, 3) := by decide +kernel
theorem dX1_copyFrom_4 : decode cX1_copyFrom 4 = .ok (.aload_n 0, 1) := by decide +kernel
theorem dX1_copyFrom_5 : decode cX1_copyFrom 5 = .ok (.getfield 9, 3) := by decide +kernel
theorem dX1_copyFrom_8 : decode cX1_copyFrom 8 = .ok (.invokestatic 25, 3) := by decide +kernel
theorem dX1_copyFrom_11 : decode cX1_copyFrom 11 = .ok (.aload_n 1, 1) := by decide +kernel
theorem dX1_copyFrom_12 : decode cX1_copyFrom 12 = .ok (.getfield 15, 3) := by decide +kernel
theorem dX1_copyFrom_15 : decode cX1_copyFrom 15 = .ok (.aload_n 0, 1) := by decide +kernel
theorem dX1_copyFrom_16 : decode cX1_copyFrom 16 = .ok (.getfield 15, 3) := by decide +kernel
theorem dX1_copyFrom_19 : decode cX1_copyFrom 19 = .ok (.invokestatic 25, 3) := by decide +kernel
theorem dX1_copyFrom_22 : decode cX1_copyFrom 22 = .ok (.aload_n 0, 1) := by decide +kernel
theorem dX1_copyFrom_23 : decode cX1_copyFrom 23 = .ok (.aload_n 1, 1) := by decide +kernel
theorem dX1_copyFrom_24 : decode cX1_copyFrom 24 = .ok (.getfield 18, 3) := by decide +kernel
theorem dX1_copyFrom_27 : decode cX1_copyFrom 27 = .ok (.putfield 18, 3) := by decide +kernel
theorem dX1_copyFrom_30 : decode cX1_copyFrom 30 = .ok (.return_, 1) := by decide +kernel
set_option maxRecDepth 20000 in
theorem ggX1_mixInto_X3_mix : GoodIn wsX1_mixInto wsX3_mix := goodIn_r _ [6, 7] (by decide +kernel) (by decide +kernel)
set_option maxRecDepth 20000 in
theorem gX1_mixInto_X3_mix_n29 : GoodIn wsX1_mixInto (wsX3_mix) := ggX1_mixInto_X3_mix
theorem dX1_mixInto_0 : decode cX1_mixInto 0 = .ok (.iconst 0, 1) := by decide +kernel
theorem dX1_mixInto_1 : decode cX1_mixInto 1 = .ok (.istore_n 3, 1) := by decide +kernel
theorem dX1_mixInto_2 : decode cX1_mixInto 2 = .ok (.iload_n 3, 1) := by decide +kernel
theorem dX1_mixInto_3 : decode cX1_mixInto 3 = .ok (.aload_n 0, 1) := by decide +kernel
theorem dX1_mixInto_4 : decode cX1_mixInto 4 = .ok (.getfield 18, 3) := by decide +kernel
theorem dX1_mixInto_7 : decode cX1_mixInto 7 = .ok (.if_icmp .ge 39, 3) := by decide +kernel
theorem dX1_mixInto_10 : decode cX1_mixInto 10 = .ok (.iload_n 3, 1) := by decide +kernel
theorem dX1_mixInto_11 : decode cX1_mixInto 11 = .ok (.bipush 24, 2) := by decide +kernel
theorem dX1_mixInto_13 : decode cX1_mixInto 13 = .ok (.if_icmp .ge 33, 3) := by decide +kernel
theorem dX1_mixInto_16 : decode cX1_mixInto 16 = .ok (.lload_n 1, 1) := by decide +kernel
theorem dX1_mixInto_17 : decode cX1_mixInto 17 = .ok (.aload_n 0, 1) := by decide +kernel
theorem dX1_mixInto_18 : decode cX1_mixInto 18 = .ok (.getfield 9, 3) := by decide +kernel
theorem dX1_mixInto_21 : decode cX1_mixInto 21 = .ok (.iload_n 3, 1) := by decide +kernel
theorem dX1_mixInto_22 : decode cX1_mixInto 22 = .ok (.iaload, 1) := by decide +kernel
theorem dX1_mixInto_23 : decode cX1_mixInto 23 = .ok (.i2l, 1) := by decide +kernel
theorem dX1_mixInto_24 : decode cX1_mixInto 24 = .ok (.invokestatic 29, 3) := by decide +kernel
theorem dX1_mixInto_27 : decode cX1_mixInto 27 = .ok (.lstore_n 1, 1) := by decide +kernel
theorem dX1_mixInto_28 : decode cX1_mixInto 28 = .ok (.lload_n 1, 1) := by decide +kernel
theorem dX1_mixInto_29 : decode cX1_mixInto 29 = .ok (.aload_n 0, 1) := by decide +kernel
theorem dX1_mixInto_30 : decode cX1_mixInto 30 = .ok (.getfield 15, 3) := by decide +kernel
theorem dX1_mixInto_33 : decode cX1_mixInto 33 = .ok (.iload_n 3, 1) := by decide +kernel
theorem dX1_mixInto_34 : decode cX1_mixInto 34 = .ok (.iaload, 1) := by decide +kernel
theorem dX1_mixInto_35 : decode cX1_mixInto 35 = .ok (.i2l, 1) := by decide +kernel
theorem dX1_mixInto_36 : decode cX1_mixInto 36 = .ok (.invokestatic 29, 3) := by decide +kernel
theorem dX1_mixInto_39 : decode cX1_mixInto 39 = .ok (.lstore_n 1, 1) := by decide +kernel
theorem dX1_mixInto_40 : decode cX1_mixInto 40 = .ok (.iinc 3 1, 3) := by decide +kernel
theorem dX1_mixInto_43 : decode cX1_mixInto 43 = .ok (.goto (-41), 3) := by decide +kernel
theorem dX1_mixInto_46 : decode cX1_mixInto 46 = .ok (.lload_n 1, 1) := by decide +kernel
theorem dX1_mixInto_47 : decode cX1_mixInto 47 = .ok (.lreturn, 1) := by decide +kernel
set_option maxRecDepth 20000 in
theorem ggX2_init_X0_init : GoodIn wsX2_init wsX0_init := goodIn_r _ [22, 23, 2, 3, 24, 25, 26, 27, 28, 29, 30, 31, 32, 33, 40, 41, 42, 43, 44, 45, 46, 47] (by decide +kernel) (by decide +kernel)
set_option maxRecDepth 20000 in
theorem gX2_init_X0_init_n11 : GoodIn wsX2_init (wsX0_init) := ggX2_init_X0_init
set_option maxRecDepth 20000 in
theorem ggX2_init_X1_init : GoodIn wsX2_init wsX1_init := goodIn_r _ [35, 36, 2, 3, 11, 37, 38, 39, 58, 59, 60] (by decide +kernel) (by decide +kernel)
set_option maxRecDepth 20000 in
theorem gX2_init_X1_init_n46 : GoodIn wsX2_init (wsX1_init) := ggX2_init_X1_init
theorem dX2_init_0 : decode cX2_init 0 = .ok (.aload_n 0, 1) := by decide +kernel
theorem dX2_init_1 : decode cX2_init 1 = .ok (.invokespecial 3, 3) := by decide +kernel
theorem dX2_init_4 : decode cX2_init 4 = .ok (.aload_n 0, 1) := by decide +kernel
theorem dX2_init_5 : decode cX2_init 5 = .ok (.new 9, 3) := by decide +kernel
theorem dX2_init_8 : decode cX2_init 8 = .ok (.dup, 1) := by decide +kernel
theorem dX2_init_9 : decode cX2_init 9 = .ok (.invokespecial 11, 3) := by decide +kernel
theorem dX2_init_12 : decode cX2_init 12 = .ok (.putfield 12, 3) := by decide +kernel
theorem dX2_init_15 : decode cX2_init 15 = .ok (.aload_n 0, 1) := by decide +kernel
theorem dX2_init_16 : decode cX2_init 16 = .ok (.iconst 0, 1) := by decide +kernel
theorem dX2_init_17 : decode cX2_init 17 = .ok (.putfield 18, 3) := by decide +kernel
theorem dX2_init_20 : decode cX2_init 20 = .ok (.aload_n 0, 1) := by decide +kernel
theorem dX2_init_21 : decode cX2_init 21 = .ok (.bipush 64, 2) := by decide +kernel
theorem dX2_init_23 : decode cX2_init 23 = .ok (.putfield 22, 3) := by decide +kernel
theorem dX2_init_26 : decode cX2_init 26 = .ok (.aload_n 0, 1) := by decide +kernel
theorem dX2_init_27 : decode cX2_init 27 = .ok (.bipush 9, 2) := by decide +kernel
theorem dX2_init_29 : decode cX2_init 29 = .ok (.putfield 25, 3) := by decide +kernel
theorem dX2_init_32 : decode cX2_init 32 = .ok (.aload_n 0, 1) := by decide +kernel
theorem dX2_init_33 : decode cX2_init 33 = .ok (.iconst 4, 1) := by decide +kernel
theorem dX2_init_34 : decode cX2_init 34 = .ok (.newarray .int, 2) := by decide +kernel
theorem dX2_init_36 : decode cX2_init 36 = .ok (.putfield 28, 3) := by decide +kernel
theorem dX2_init_39 : decode cX2_init 39 = .ok (.aload_n 0, 1) := by decide +kernel
theorem dX2_init_40 : decode cX2_init 40 = .ok (.iconst 4, 1) := by decide +kernel
theorem dX2_init_41 : decode cX2_init 41 = .ok (.newarray .int, 2) := by decide +kernel
theorem dX2_init_43 : decode cX2_init 43 = .ok (.putfield 32, 3) := by decide +kernel
theorem dX2_init_46 : decode cX2_init 46 = .ok (.aload_n 0, 1) := by decide +kernel
theorem dX2_init_47 : decode cX2_init 47 = .ok (.iconst 0, 1) := by decide +kernel
theorem dX2_init_48 : decode cX2_init 48 = .ok (.putfield 35, 3) := by decide +kernel
theorem dX2_init_51 : decode cX2_init 51 = .ok (.aload_n 0, 1) := by decide +kernel
theorem dX2_init_52 : decode cX2_init 52 = .ok (.iconst 0, 1) := by decide +kernel
theorem dX2_init_53 : decode cX2_init 53 = .ok (.putfield 38, 3) := by decide +kernel
theorem dX2_init_56 : decode cX2_init 56 = .ok (.aload_n 0, 1) := by decide +kernel
theorem dX2_init_57 : decode cX2_init 57 = .ok (.iconst 0, 1) := by decide +kernel
theorem dX2_init_58 : decode cX2_init 58 = .ok (.putfield 41, 3) := by decide +kernel
theorem dX2_init_61 : decode cX2_init 61 = .ok (.aload_n 0, 1) := by decide +kernel
theorem dX2_init_62 : decode cX2_init 62 = .ok (.new 44, 3) := by decide +kernel
theorem dX2_init_65 : decode cX2_init 65 = .ok (.dup, 1) := by decide +kernel
theorem dX2_init_66 : decode cX2_init 66 = .ok (.invokespecial 46, 3) := by decide +kernel
theorem dX2_init_69 : decode cX2_init 69 = .ok (.putfield 47, 3) := by decide +kernel
theorem dX2_init_72 : decode cX2_init 72 = .ok (.iconst 0, 1) := by decide +kernel
theorem dX2_init_73 : decode cX2_init 73 = .ok (.istore_n 1, 1) := by decide +kernel
theorem dX2_init_74 : decode cX2_init 74 = .ok (.iload_n 1, 1) := by decide +kernel
theorem dX2_init_75 : decode cX2_init 75 = .ok (.iconst 4, 1) := by decide +kernel
theorem dX2_init_76 : decode cX2_init 76 = .ok (.if_icmp .ge 25, 3) := by decide +kernel
theorem dX2_init_79 : decode cX2_init 79 = .ok (.aload_n 0, 1) := by decide +kernel
theorem dX2_init_80 : decode cX2_init 80 = .ok (.getfield 28, 3) := by decide +kernel
theorem dX2_init_83 : decode cX2_init 83 = .ok (.iload_n 1, 1) := by decide +kernel
theorem dX2_init_84 : decode cX2_init 84 = .ok (.iconst 0, 1) := by decide +kernel
theorem dX2_init_85 : decode cX2_init 85 = .ok (.iastore, 1) := by decide +kernel
theorem dX2_init_86 : decode cX2_init 86 = .ok (.aload_n 0, 1) := by decide +kernel
theorem dX2_init_87 : decode cX2_init 87 = .ok (.getfield 32, 3) := by decide +kernel
theorem dX2_init_90 : decode cX2_init 90 = .ok (.iload_n 1, 1) := by decide +kernel
theorem dX2_init_91 : decode cX2_init 91 = .ok (.sipush 4096, 3) := by decide +kernel
theorem dX2_init_94 : decode cX2_init 94 = .ok (.iastore, 1) := by decide +kernel
theorem dX2_init_95 : decode cX2_init 95 = .ok (.iinc 1 1, 3) := by decide +kernel
theorem dX2_init_98 : decode cX2_init 98 = .ok (.goto (-24), 3) := by decide +kernel
theorem dX2_init_101 : decode cX2_init 101 = .ok (.return_, 1) := by decide +kernel
set_option maxRecDepth 20000 in
theorem ggX2_copyFrom_X0_copyFrom : GoodIn wsX2_copyFrom wsX0_copyFrom := goodIn_r _ [14, 15, 16, 17, 18, 19, 20, 21, 22, 43, 44, 45, 46, 47, 48, 49, 50] (by decide +kernel) (by decide +kernel)
set_option maxRecDepth 20000 in
theorem gX2_copyFrom_X0_copyFrom_n51 : GoodIn wsX2_copyFrom (wsX0_copyFrom) := ggX2_copyFrom_X0_copyFrom
set_option maxRecDepth 20000 in
theorem ggX2_copyFrom_X3_copyRow : GoodIn wsX2_copyFrom wsX3_copyRow := goodIn_r _ [25] (by decide +kernel) (by decide +kernel)
set_option maxRecDepth 20000 in
theorem gX2_copyFrom_X3_copyRow_n55 : GoodIn wsX2_copyFrom (wsX3_copyRow) := ggX2_copyFrom_X3_copyRow
set_option maxRecDepth 20000 in
theorem ggX2_copyFrom_X1_copyFrom : GoodIn wsX2_copyFrom wsX1_copyFrom := goodIn_r _ [29, 30, 31, 32, 23, 24, 25, 51, 52, 53] (by decide +kernel) (by decide +kernel)
set_option maxRecDepth 20000 in
theorem gX2_copyFrom_X1_copyFrom_n59 : GoodIn wsX2_copyFrom (wsX1_copyFrom) := ggX2_copyFrom_X1_copyFrom
theorem dX2_copyFrom_0 : decode cX2_copyFrom 0 = .ok (.aload_n 0, 1) := by decide +kernel
theorem dX2_copyFrom_1 : decode cX2_copyFrom 1 = .ok (.getfield 12, 3) := by decide +kernel
theorem dX2_copyFrom_4 : decode cX2_copyFrom 4 = .ok (.aload_n 1, 1) := by decide +kernel
theorem dX2_copyFrom_5 : decode cX2_copyFrom 5 = .ok (.getfield 12, 3) := by decide +kernel
theorem dX2_copyFrom_8 : decode cX2_copyFrom 8 = .ok (.invokevirtual 51, 3) := by decide +kernel
theorem dX2_copyFrom_11 : decode cX2_copyFrom 11 = .ok (.aload_n 0, 1) := by decide +kernel
theorem dX2_copyFrom_12 : decode cX2_copyFrom 12 = .ok (.aload_n 1, 1) := by decide +kernel
theorem dX2_copyFrom_13 : decode cX2_copyFrom 13 = .ok (.getfield 18, 3) := by decide +kernel
theorem dX2_copyFrom_16 : decode cX2_copyFrom 16 = .ok (.putfield 18, 3) := by decide +kernel
theorem dX2_copyFrom_19 : decode cX2_copyFrom 19 = .ok (.aload_n 0, 1) := by decide +kernel
theorem dX2_copyFrom_20 : decode cX2_copyFrom 20 = .ok (.aload_n 1, 1) := by decide +kernel
theorem dX2_copyFrom_21 : decode cX2_copyFrom 21 = .ok (.getfield 22, 3) := by decide +kernel
theorem dX2_copyFrom_24 : decode cX2_copyFrom 24 = .ok (.putfield 22, 3) := by decide +kernel
theorem dX2_copyFrom_27 : decode cX2_copyFrom 27 = .ok (.aload_n 0, 1) := by decide +kernel
theorem dX2_copyFrom_28 : decode cX2_copyFrom 28 = .ok (.aload_n 1, 1) := by decide +kernel
theorem dX2_copyFrom_29 : decode cX2_copyFrom 29 = .ok (.getfield 25, 3) := by decide +kernel
theorem dX2_copyFrom_32 : decode cX2_copyFrom 32 = .ok (.putfield 25, 3) := by decide +kernel
theorem dX2_copyFrom_35 : decode cX2_copyFrom 35 = .ok (.aload_n 1, 1) := by decide +kernel
theorem dX2_copyFrom_36 : decode cX2_copyFrom 36 = .ok (.getfield 28, 3) := by decide +kernel
theorem dX2_copyFrom_39 : decode cX2_copyFrom 39 = .ok (.aload_n 0, 1) := by decide +kernel
theorem dX2_copyFrom_40 : decode cX2_copyFrom 40 = .ok (.getfield 28, 3) := by decide +kernel
theorem dX2_copyFrom_43 : decode cX2_copyFrom 43 = .ok (.invokestatic 55, 3) := by decide +kernel
theorem dX2_copyFrom_46 : decode cX2_copyFrom 46 = .ok (.aload_n 1, 1) := by decide +kernel
theorem dX2_copyFrom_47 : decode cX2_copyFrom 47 = .ok (.getfield 32, 3) := by decide +kernel
theorem dX2_copyFrom_50 : decode cX2_copyFrom 50 = .ok (.aload_n 0, 1) := by decide +kernel
theorem dX2_copyFrom_51 : decode cX2_copyFrom 51 = .ok (.getfield 32, 3) := by decide +kernel
theorem dX2_copyFrom_54 : decode cX2_copyFrom 54 = .ok (.invokestatic 55, 3) := by decide +kernel
theorem dX2_copyFrom_57 : decode cX2_copyFrom 57 = .ok (.aload_n 0, 1) := by decide +kernel
theorem dX2_copyFrom_58 : decode cX2_copyFrom 58 = .ok (.aload_n 1, 1) := by decide +kernel
theorem dX2_copyFrom_59 : decode cX2_copyFrom 59 = .ok (.getfield 35, 3) := by decide +kernel
theorem dX2_copyFrom_62 : decode cX2_copyFrom 62 = .ok (.putfield 35, 3) := by decide +kernel
theorem dX2_copyFrom_65 : decode cX2_copyFrom 65 = .ok (.aload_n 0, 1) := by decide +kernel
theorem dX2_copyFrom_66 : decode cX2_copyFrom 66 = .ok (.aload_n 1, 1) := by decide +kernel
theorem dX2_copyFrom_67 : decode cX2_copyFrom 67 = .ok (.getfield 38, 3) := by decide +kernel
theorem dX2_copyFrom_70 : decode cX2_copyFrom 70 = .ok (.putfield 38, 3) := by decide +kernel
theorem dX2_copyFrom_73 : decode cX2_copyFrom 73 = .ok (.aload_n 0, 1) := by decide +kernel
theorem dX2_copyFrom_74 : decode cX2_copyFrom 74 = .ok (.aload_n 1, 1) := by decide +kernel
theorem dX2_copyFrom_75 : decode cX2_copyFrom 75 = .ok (.getfield 41, 3) := by decide +kernel
theorem dX2_copyFrom_78 : decode cX2_copyFrom 78 = .ok (.putfield 41, 3) := by decide +kernel
theorem dX2_copyFrom_81 : decode cX2_copyFrom 81 = .ok (.aload_n 0, 1) := by decide +kernel
theorem dX2_copyFrom_82 : decode cX2_copyFrom 82 = .ok (.getfield 47, 3) := by decide +kernel
theorem dX2_copyFrom_85 : decode cX2_copyFrom 85 = .ok (.aload_n 1, 1) := by decide +kernel
theorem dX2_copyFrom_86 : decode cX2_copyFrom 86 = .ok (.getfield 47, 3) := by decide +kernel
theorem dX2_copyFrom_89 : decode cX2_copyFrom 89 = .ok (.invokevirtual 59, 3) := by decide +kernel
theorem dX2_copyFrom_92 : decode cX2_copyFrom 92 = .ok (.return_, 1) := by decide +kernel
set_option maxRecDepth 20000 in
theorem ggX2_mixInto_X0_mixStateInto : GoodIn wsX2_mixInto wsX0_mixStateInto := goodIn_r _ [14, 15, 16, 17, 18, 19, 20, 21, 22, 23, 50, 51, 52, 53, 54, 55, 56, 57] (by decide +kernel) (by decide +kernel)
set_option maxRecDepth 20000 in
theorem gX2_mixInto_X0_mixStateInto_n62 : GoodIn wsX2_mixInto (wsX0_mixStateInto) := ggX2_mixInto_X0_mixStateInto
set_option maxRecDepth 20000 in
theorem ggX2_mixInto_X3_mix : GoodIn wsX2_mixInto wsX3_mix := goodIn_r _ [22, 23] (by decide +kernel) (by decide +kernel)
set_option maxRecDepth 20000 in
theorem gX2_mixInto_X3_mix_n66 : GoodIn wsX2_mixInto (wsX3_mix) := ggX2_mixInto_X3_mix
set_option maxRecDepth 20000 in
theorem ggX2_mixInto_X0_mixLatestReadingInto : GoodIn wsX2_mixInto wsX0_mixLatestReadingInto := goodIn_r _ [26, 27, 28, 29, 20, 21, 22, 23, 50, 51, 52, 53, 54, 55, 56, 57] (by decide +kernel) (by decide +kernel)
set_option maxRecDepth 20000 in
theorem gX2_mixInto_X0_mixLatestReadingInto_n70 : GoodIn wsX2_mixInto (wsX0_mixLatestReadingInto) := ggX2_mixInto_X0_mixLatestReadingInto
set_option maxRecDepth 20000 in
theorem ggX2_mixInto_X1_mixInto : GoodIn wsX2_mixInto wsX1_mixInto := goodIn_r _ [33, 34, 35, 36, 20, 21, 22, 23, 47, 48, 49] (by decide +kernel) (by decide +kernel)
set_option maxRecDepth 20000 in
theorem gX2_mixInto_X1_mixInto_n76 : GoodIn wsX2_mixInto (wsX1_mixInto) := ggX2_mixInto_X1_mixInto
theorem dX2_mixInto_0 : decode cX2_mixInto 0 = .ok (.aload_n 0, 1) := by decide +kernel
theorem dX2_mixInto_1 : decode cX2_mixInto 1 = .ok (.getfield 12, 3) := by decide +kernel
theorem dX2_mixInto_4 : decode cX2_mixInto 4 = .ok (.lload_n 1, 1) := by decide +kernel
theorem dX2_mixInto_5 : decode cX2_mixInto 5 = .ok (.invokevirtual 62, 3) := by decide +kernel
theorem dX2_mixInto_8 : decode cX2_mixInto 8 = .ok (.lstore_n 1, 1) := by decide +kernel
theorem dX2_mixInto_9 : decode cX2_mixInto 9 = .ok (.lload_n 1, 1) := by decide +kernel
theorem dX2_mixInto_10 : decode cX2_mixInto 10 = .ok (.aload_n 0, 1) := by decide +kernel
theorem dX2_mixInto_11 : decode cX2_mixInto 11 = .ok (.getfield 18, 3) := by decide +kernel
theorem dX2_mixInto_14 : decode cX2_mixInto 14 = .ok (.i2l, 1) := by decide +kernel
theorem dX2_mixInto_15 : decode cX2_mixInto 15 = .ok (.invokestatic 66, 3) := by decide +kernel
theorem dX2_mixInto_18 : decode cX2_mixInto 18 = .ok (.lstore_n 1, 1) := by decide +kernel
theorem dX2_mixInto_19 : decode cX2_mixInto 19 = .ok (.lload_n 1, 1) := by decide +kernel
theorem dX2_mixInto_20 : decode cX2_mixInto 20 = .ok (.aload_n 0, 1) := by decide +kernel
theorem dX2_mixInto_21 : decode cX2_mixInto 21 = .ok (.getfield 22, 3) := by decide +kernel
theorem dX2_mixInto_24 : decode cX2_mixInto 24 = .ok (.i2l, 1) := by decide +kernel
theorem dX2_mixInto_25 : decode cX2_mixInto 25 = .ok (.invokestatic 66, 3) := by decide +kernel
theorem dX2_mixInto_28 : decode cX2_mixInto 28 = .ok (.lstore_n 1, 1) := by decide +kernel
theorem dX2_mixInto_29 : decode cX2_mixInto 29 = .ok (.lload_n 1, 1) := by decide +kernel
theorem dX2_mixInto_30 : decode cX2_mixInto 30 = .ok (.aload_n 0, 1) := by decide +kernel
theorem dX2_mixInto_31 : decode cX2_mixInto 31 = .ok (.getfield 25, 3) := by decide +kernel
theorem dX2_mixInto_34 : decode cX2_mixInto 34 = .ok (.i2l, 1) := by decide +kernel
theorem dX2_mixInto_35 : decode cX2_mixInto 35 = .ok (.invokestatic 66, 3) := by decide +kernel
theorem dX2_mixInto_38 : decode cX2_mixInto 38 = .ok (.lstore_n 1, 1) := by decide +kernel
theorem dX2_mixInto_39 : decode cX2_mixInto 39 = .ok (.iconst 0, 1) := by decide +kernel
theorem dX2_mixInto_40 : decode cX2_mixInto 40 = .ok (.istore_n 3, 1) := by decide +kernel
theorem dX2_mixInto_41 : decode cX2_mixInto 41 = .ok (.iload_n 3, 1) := by decide +kernel
theorem dX2_mixInto_42 : decode cX2_mixInto 42 = .ok (.iconst 4, 1) := by decide +kernel
theorem dX2_mixInto_43 : decode cX2_mixInto 43 = .ok (.if_icmp .ge 33, 3) := by decide +kernel
theorem dX2_mixInto_46 : decode cX2_mixInto 46 = .ok (.lload_n 1, 1) := by decide +kernel
theorem dX2_mixInto_47 : decode cX2_mixInto 47 = .ok (.aload_n 0, 1) := by decide +kernel
theorem dX2_mixInto_48 : decode cX2_mixInto 48 = .ok (.getfield 28, 3) := by decide +kernel
theorem dX2_mixInto_51 : decode cX2_mixInto 51 = .ok (.iload_n 3, 1) := by decide +kernel
theorem dX2_mixInto_52 : decode cX2_mixInto 52 = .ok (.iaload, 1) := by decide +kernel
theorem dX2_mixInto_53 : decode cX2_mixInto 53 = .ok (.i2l, 1) := by decide +kernel
theorem dX2_mixInto_54 : decode cX2_mixInto 54 = .ok (.invokestatic 66, 3) := by decide +kernel
theorem dX2_mixInto_57 : decode cX2_mixInto 57 = .ok (.lstore_n 1, 1) := by decide +kernel
theorem dX2_mixInto_58 : decode cX2_mixInto 58 = .ok (.lload_n 1, 1) := by decide +kernel
theorem dX2_mixInto_59 : decode cX2_mixInto 59 = .ok (.aload_n 0, 1) := by decide +kernel
theorem dX2_mixInto_60 : decode cX2_mixInto 60 = .ok (.getfield 32, 3) := by decide +kernel
theorem dX2_mixInto_63 : decode cX2_mixInto 63 = .ok (.iload_n 3, 1) := by decide +kernel
theorem dX2_mixInto_64 : decode cX2_mixInto 64 = .ok (.iaload, 1) := by decide +kernel
theorem dX2_mixInto_65 : decode cX2_mixInto 65 = .ok (.i2l, 1) := by decide +kernel
theorem dX2_mixInto_66 : decode cX2_mixInto 66 = .ok (.invokestatic 66, 3) := by decide +kernel
theorem dX2_mixInto_69 : decode cX2_mixInto 69 = .ok (.lstore_n 1, 1) := by decide +kernel
theorem dX2_mixInto_70 : decode cX2_mixInto 70 = .ok (.iinc 3 1, 3) := by decide +kernel
theorem dX2_mixInto_73 : decode cX2_mixInto 73 = .ok (.goto (-32), 3) := by decide +kernel
theorem dX2_mixInto_76 : decode cX2_mixInto 76 = .ok (.aload_n 0, 1) := by decide +kernel
theorem dX2_mixInto_77 : decode cX2_mixInto 77 = .ok (.getfield 12, 3) := by decide +kernel
theorem dX2_mixInto_80 : decode cX2_mixInto 80 = .ok (.lload_n 1, 1) := by decide +kernel
theorem dX2_mixInto_81 : decode cX2_mixInto 81 = .ok (.invokevirtual 70, 3) := by decide +kernel
theorem dX2_mixInto_84 : decode cX2_mixInto 84 = .ok (.lstore_n 1, 1) := by decide +kernel
theorem dX2_mixInto_85 : decode cX2_mixInto 85 = .ok (.lload_n 1, 1) := by decide +kernel
theorem dX2_mixInto_86 : decode cX2_mixInto 86 = .ok (.aload_n 0, 1) := by decide +kernel
theorem dX2_mixInto_87 : decode cX2_mixInto 87 = .ok (.getfield 35, 3) := by decide +kernel
theorem dX2_mixInto_90 : decode cX2_mixInto 90 = .ok (.i2l, 1) := by decide +kernel
theorem dX2_mixInto_91 : decode cX2_mixInto 91 = .ok (.invokestatic 66, 3) := by decide +kernel
theorem dX2_mixInto_94 : decode cX2_mixInto 94 = .ok (.lstore_n 1, 1) := by decide +kernel
theorem dX2_mixInto_95 : decode cX2_mixInto 95 = .ok (.lload_n 1, 1) := by decide +kernel
theorem dX2_mixInto_96 : decode cX2_mixInto 96 = .ok (.aload_n 0, 1) := by decide +kernel
theorem dX2_mixInto_97 : decode cX2_mixInto 97 = .ok (.getfield 38, 3) := by decide +kernel
theorem dX2_mixInto_100 : decode cX2_mixInto 100 = .ok (.i2l, 1) := by decide +kernel
theorem dX2_mixInto_101 : decode cX2_mixInto 101 = .ok (.invokestatic 66, 3) := by decide +kernel
theorem dX2_mixInto_104 : decode cX2_mixInto 104 = .ok (.lstore_n 1, 1) := by decide +kernel
theorem dX2_mixInto_105 : decode cX2_mixInto 105 = .ok (.lload_n 1, 1) := by decide +kernel
theorem dX2_mixInto_106 : decode cX2_mixInto 106 = .ok (.aload_n 0, 1) := by decide +kernel
theorem dX2_mixInto_107 : decode cX2_mixInto 107 = .ok (.getfield 41, 3) := by decide +kernel
theorem dX2_mixInto_110 : decode cX2_mixInto 110 = .ok (.i2l, 1) := by decide +kernel
theorem dX2_mixInto_111 : decode cX2_mixInto 111 = .ok (.invokestatic 66, 3) := by decide +kernel
theorem dX2_mixInto_114 : decode cX2_mixInto 114 = .ok (.lstore_n 1, 1) := by decide +kernel
theorem dX2_mixInto_115 : decode cX2_mixInto 115 = .ok (.lload_n 1, 1) := by decide +kernel
theorem dX2_mixInto_116 : decode cX2_mixInto 116 = .ok (.aload_n 0, 1) := by decide +kernel
theorem dX2_mixInto_117 : decode cX2_mixInto 117 = .ok (.getfield 47, 3) := by decide +kernel
theorem dX2_mixInto_120 : decode cX2_mixInto 120 = .ok (.getfield 73, 3) := by decide +kernel
theorem dX2_mixInto_123 : decode cX2_mixInto 123 = .ok (.i2l, 1) := by decide +kernel
theorem dX2_mixInto_124 : decode cX2_mixInto 124 = .ok (.invokestatic 66, 3) := by decide +kernel
theorem dX2_mixInto_127 : decode cX2_mixInto 127 = .ok (.lstore_n 1, 1) := by decide +kernel
theorem dX2_mixInto_128 : decode cX2_mixInto 128 = .ok (.aload_n 0, 1) := by decide +kernel
theorem dX2_mixInto_129 : decode cX2_mixInto 129 = .ok (.getfield 47, 3) := by decide +kernel
theorem dX2_mixInto_132 : decode cX2_mixInto 132 = .ok (.lload_n 1, 1) := by decide +kernel
theorem dX2_mixInto_133 : decode cX2_mixInto 133 = .ok (.invokevirtual 76, 3) := by decide +kernel
theorem dX2_mixInto_136 : decode cX2_mixInto 136 = .ok (.lreturn, 1) := by decide +kernel
set_option maxRecDepth 20000 in
theorem ggX3_init_X2_init : GoodIn wsX3_init wsX2_init := goodIn_r _ [17, 18, 2, 3, 19, 13, 14, 20, 21, 22, 23, 10, 24, 25, 26, 27, 28, 29, 30, 31, 32, 33, 34, 35, 36, 37, 38, 39, 40, 41, 42, 43, 44, 45, 46, 47, 48, 49, 50, 51, 67, 68, 69, 70, 71, 72, 73, 74, 52, 53, 54, 55, 56, 57, 58, 59, 60, 61, 75, 76, 77] (by decide +kernel) (by decide +kernel)
