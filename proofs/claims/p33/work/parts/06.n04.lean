set_option maxRecDepth 20000 in
theorem ggX0_init_X4_init : GoodIn wsX0_init wsX4_init := goodIn_r _ [10, 11, 2, 3, 12, 13, 14, 15, 16, 17, 18, 19, 20, 23, 24, 25, 26, 27, 28, 29] (by decide +kernel) (by decide +kernel)
set_option maxRecDepth 20000 in
theorem gX0_init_X4_init_n17 : GoodIn wsX0_init (wsX4_init) := ggX0_init_X4_init
theorem dX0_init_0 : decode cX0_init 0 = .ok (.aload_n 0, 1) := by decide +kernel
theorem dX0_init_1 : decode cX0_init 1 = .ok (.invokespecial 3, 3) := by decide +kernel
theorem dX0_init_4 : decode cX0_init 4 = .ok (.aload_n 0, 1) := by decide +kernel
theorem dX0_init_5 : decode cX0_init 5 = .ok (.bipush 6, 2) := by decide +kernel
theorem dX0_init_7 : decode cX0_init 7 = .ok (.anewarray 9, 3) := by decide +kernel
theorem dX0_init_10 : decode cX0_init 10 = .ok (.putfield 11, 3) := by decide +kernel
theorem dX0_init_13 : decode cX0_init 13 = .ok (.iconst 0, 1) := by decide +kernel
theorem dX0_init_14 : decode cX0_init 14 = .ok (.istore_n 1, 1) := by decide +kernel
theorem dX0_init_15 : decode cX0_init 15 = .ok (.iload_n 1, 1) := by decide +kernel
theorem dX0_init_16 : decode cX0_init 16 = .ok (.bipush 6, 2) := by decide +kernel
theorem dX0_init_18 : decode cX0_init 18 = .ok (.if_icmp .ge 22, 3) := by decide +kernel
theorem dX0_init_21 : decode cX0_init 21 = .ok (.aload_n 0, 1) := by decide +kernel
theorem dX0_init_22 : decode cX0_init 22 = .ok (.getfield 11, 3) := by decide +kernel
theorem dX0_init_25 : decode cX0_init 25 = .ok (.iload_n 1, 1) := by decide +kernel
theorem dX0_init_26 : decode cX0_init 26 = .ok (.new 9, 3) := by decide +kernel
theorem dX0_init_29 : decode cX0_init 29 = .ok (.dup, 1) := by decide +kernel
theorem dX0_init_30 : decode cX0_init 30 = .ok (.invokespecial 17, 3) := by decide +kernel
theorem dX0_init_33 : decode cX0_init 33 = .ok (.aastore, 1) := by decide +kernel
theorem dX0_init_34 : decode cX0_init 34 = .ok (.iinc 1 1, 3) := by decide +kernel
theorem dX0_init_37 : decode cX0_init 37 = .ok (.goto (-22), 3) := by decide +kernel
theorem dX0_init_40 : decode cX0_init 40 = .ok (.aload_n 0, 1) := by decide +kernel
theorem dX0_init_41 : decode cX0_init 41 = .ok (.iconst 0, 1) := by decide +kernel
theorem dX0_init_42 : decode cX0_init 42 = .ok (.putfield 18, 3) := by decide +kernel
theorem dX0_init_45 : decode cX0_init 45 = .ok (.return_, 1) := by decide +kernel
set_option maxRecDepth 20000 in
theorem ggX0_record_X0_dropOldest : GoodIn wsX0_record wsX0_dropOldest := goodIn_r _ [7, 2, 1, 19, 20] (by decide +kernel) (by decide +kernel)
set_option maxRecDepth 20000 in
theorem gX0_record_X0_dropOldest : GoodIn wsX0_record (wsV RX0 22 RX0 yX0_dropOldest wsX0_dropOldest) := goodIn_app (goodIn_of _ (by decide +kernel)) ggX0_record_X0_dropOldest
set_option maxRecDepth 20000 in
theorem ggX0_record_X4_copyFrom : GoodIn wsX0_record wsX4_copyFrom := goodIn_r _ [11, 12, 13, 14, 15, 16, 17, 18, 21, 22, 23, 24, 25, 26, 27] (by decide +kernel) (by decide +kernel)
set_option maxRecDepth 20000 in
theorem gX0_record_X4_copyFrom_n25 : GoodIn wsX0_record (wsX4_copyFrom) := ggX0_record_X4_copyFrom
theorem dX0_record_0 : decode cX0_record 0 = .ok (.aload_n 0, 1) := by decide +kernel
theorem dX0_record_1 : decode cX0_record 1 = .ok (.getfield 18, 3) := by decide +kernel
theorem dX0_record_4 : decode cX0_record 4 = .ok (.bipush 6, 2) := by decide +kernel
theorem dX0_record_6 : decode cX0_record 6 = .ok (.if_icmp .lt 7, 3) := by decide +kernel
theorem dX0_record_9 : decode cX0_record 9 = .ok (.aload_n 0, 1) := by decide +kernel
theorem dX0_record_10 : decode cX0_record 10 = .ok (.invokevirtual 22, 3) := by decide +kernel
theorem dX0_record_13 : decode cX0_record 13 = .ok (.aload_n 0, 1) := by decide +kernel
theorem dX0_record_14 : decode cX0_record 14 = .ok (.getfield 11, 3) := by decide +kernel
theorem dX0_record_17 : decode cX0_record 17 = .ok (.aload_n 0, 1) := by decide +kernel
theorem dX0_record_18 : decode cX0_record 18 = .ok (.getfield 18, 3) := by decide +kernel
theorem dX0_record_21 : decode cX0_record 21 = .ok (.aaload, 1) := by decide +kernel
theorem dX0_record_22 : decode cX0_record 22 = .ok (.aload_n 1, 1) := by decide +kernel
theorem dX0_record_23 : decode cX0_record 23 = .ok (.invokevirtual 25, 3) := by decide +kernel
theorem dX0_record_26 : decode cX0_record 26 = .ok (.aload_n 0, 1) := by decide +kernel
theorem dX0_record_27 : decode cX0_record 27 = .ok (.dup, 1) := by decide +kernel
theorem dX0_record_28 : decode cX0_record 28 = .ok (.getfield 18, 3) := by decide +kernel
theorem dX0_record_31 : decode cX0_record 31 = .ok (.iconst 1, 1) := by decide +kernel
theorem dX0_record_32 : decode cX0_record 32 = .ok (.iadd, 1) := by decide +kernel
theorem dX0_record_33 : decode cX0_record 33 = .ok (.putfield 18, 3) := by decide +kernel
theorem dX0_record_36 : decode cX0_record 36 = .ok (.return_, 1) := by decide +kernel
theorem dX0_dropOldest_0 : decode cX0_dropOldest 0 = .ok (.aload_n 0, 1) := by decide +kernel
theorem dX0_dropOldest_1 : decode cX0_dropOldest 1 = .ok (.getfield 11, 3) := by decide +kernel
theorem dX0_dropOldest_4 : decode cX0_dropOldest 4 = .ok (.iconst 0, 1) := by decide +kernel
theorem dX0_dropOldest_5 : decode cX0_dropOldest 5 = .ok (.aaload, 1) := by decide +kernel
theorem dX0_dropOldest_6 : decode cX0_dropOldest 6 = .ok (.astore_n 1, 1) := by decide +kernel
theorem dX0_dropOldest_7 : decode cX0_dropOldest 7 = .ok (.iconst 1, 1) := by decide +kernel
theorem dX0_dropOldest_8 : decode cX0_dropOldest 8 = .ok (.istore_n 2, 1) := by decide +kernel
theorem dX0_dropOldest_9 : decode cX0_dropOldest 9 = .ok (.iload_n 2, 1) := by decide +kernel
theorem dX0_dropOldest_10 : decode cX0_dropOldest 10 = .ok (.bipush 6, 2) := by decide +kernel
theorem dX0_dropOldest_12 : decode cX0_dropOldest 12 = .ok (.if_icmp .ge 23, 3) := by decide +kernel
theorem dX0_dropOldest_15 : decode cX0_dropOldest 15 = .ok (.aload_n 0, 1) := by decide +kernel
theorem dX0_dropOldest_16 : decode cX0_dropOldest 16 = .ok (.getfield 11, 3) := by decide +kernel
theorem dX0_dropOldest_19 : decode cX0_dropOldest 19 = .ok (.iload_n 2, 1) := by decide +kernel
theorem dX0_dropOldest_20 : decode cX0_dropOldest 20 = .ok (.iconst 1, 1) := by decide +kernel
theorem dX0_dropOldest_21 : decode cX0_dropOldest 21 = .ok (.isub, 1) := by decide +kernel
theorem dX0_dropOldest_22 : decode cX0_dropOldest 22 = .ok (.aload_n 0, 1) := by decide +kernel
theorem dX0_dropOldest_23 : decode cX0_dropOldest 23 = .ok (.getfield 11, 3) := by decide +kernel
theorem dX0_dropOldest_26 : decode cX0_dropOldest 26 = .ok (.iload_n 2, 1) := by decide +kernel
theorem dX0_dropOldest_27 : decode cX0_dropOldest 27 = .ok (.aaload, 1) := by decide +kernel
theorem dX0_dropOldest_28 : decode cX0_dropOldest 28 = .ok (.aastore, 1) := by decide +kernel
theorem dX0_dropOldest_29 : decode cX0_dropOldest 29 = .ok (.iinc 2 1, 3) := by decide +kernel
theorem dX0_dropOldest_32 : decode cX0_dropOldest 32 = .ok (.goto (-23), 3) := by decide +kernel
theorem dX0_dropOldest_35 : decode cX0_dropOldest 35 = .ok (.aload_n 0, 1) := by decide +kernel
theorem dX0_dropOldest_36 : decode cX0_dropOldest 36 = .ok (.getfield 11, 3) := by decide +kernel
theorem dX0_dropOldest_39 : decode cX0_dropOldest 39 = .ok (.iconst 5, 1) := by decide +kernel
theorem dX0_dropOldest_40 : decode cX0_dropOldest 40 = .ok (.aload_n 1, 1) := by decide +kernel
theorem dX0_dropOldest_41 : decode cX0_dropOldest 41 = .ok (.aastore, 1) := by decide +kernel
theorem dX0_dropOldest_42 : decode cX0_dropOldest 42 = .ok (.aload_n 0, 1) := by decide +kernel
theorem dX0_dropOldest_43 : decode cX0_dropOldest 43 = .ok (.iconst 5, 1) := by decide +kernel
theorem dX0_dropOldest_44 : decode cX0_dropOldest 44 = .ok (.putfield 18, 3) := by decide +kernel
theorem dX0_dropOldest_47 : decode cX0_dropOldest 47 = .ok (.return_, 1) := by decide +kernel
set_option maxRecDepth 20000 in
theorem ggX0_restoreLatest_X4_copyFrom : GoodIn wsX0_restoreLatest wsX4_copyFrom := goodIn_r _ [6, 7, 8, 9, 10, 11, 12, 13, 16, 17, 18, 19, 20, 21, 22] (by decide +kernel) (by decide +kernel)
set_option maxRecDepth 20000 in
theorem gX0_restoreLatest_X4_copyFrom_n25 : GoodIn wsX0_restoreLatest (wsX4_copyFrom) := ggX0_restoreLatest_X4_copyFrom
theorem dX0_restoreLatest_0 : decode cX0_restoreLatest 0 = .ok (.aload_n 0, 1) := by decide +kernel
theorem dX0_restoreLatest_1 : decode cX0_restoreLatest 1 = .ok (.getfield 18, 3) := by decide +kernel
theorem dX0_restoreLatest_4 : decode cX0_restoreLatest 4 = .ok (.ifCond .le 26, 3) := by decide +kernel
theorem dX0_restoreLatest_7 : decode cX0_restoreLatest 7 = .ok (.aload_n 0, 1) := by decide +kernel
theorem dX0_restoreLatest_8 : decode cX0_restoreLatest 8 = .ok (.dup, 1) := by decide +kernel
theorem dX0_restoreLatest_9 : decode cX0_restoreLatest 9 = .ok (.getfield 18, 3) := by decide +kernel
theorem dX0_restoreLatest_12 : decode cX0_restoreLatest 12 = .ok (.iconst 1, 1) := by decide +kernel
theorem dX0_restoreLatest_13 : decode cX0_restoreLatest 13 = .ok (.isub, 1) := by decide +kernel
theorem dX0_restoreLatest_14 : decode cX0_restoreLatest 14 = .ok (.putfield 18, 3) := by decide +kernel
theorem dX0_restoreLatest_17 : decode cX0_restoreLatest 17 = .ok (.aload_n 1, 1) := by decide +kernel
theorem dX0_restoreLatest_18 : decode cX0_restoreLatest 18 = .ok (.aload_n 0, 1) := by decide +kernel
theorem dX0_restoreLatest_19 : decode cX0_restoreLatest 19 = .ok (.getfield 11, 3) := by decide +kernel
theorem dX0_restoreLatest_22 : decode cX0_restoreLatest 22 = .ok (.aload_n 0, 1) := by decide +kernel
theorem dX0_restoreLatest_23 : decode cX0_restoreLatest 23 = .ok (.getfield 18, 3) := by decide +kernel
theorem dX0_restoreLatest_26 : decode cX0_restoreLatest 26 = .ok (.aaload, 1) := by decide +kernel
theorem dX0_restoreLatest_27 : decode cX0_restoreLatest 27 = .ok (.invokevirtual 25, 3) := by decide +kernel
theorem dX0_restoreLatest_30 : decode cX0_restoreLatest 30 = .ok (.return_, 1) := by decide +kernel
theorem dX1_init_0 : decode cX1_init 0 = .ok (.aload_n 0, 1) := by decide +kernel
theorem dX1_init_1 : decode cX1_init 1 = .ok (.invokespecial 3, 3) := by decide +kernel
theorem dX1_init_4 : decode cX1_init 4 = .ok (.aload_n 0, 1) := by decide +kernel
theorem dX1_init_5 : decode cX1_init 5 = .ok (.bipush 16, 2) := by decide +kernel
theorem dX1_init_7 : decode cX1_init 7 = .ok (.newarray .int, 2) := by decide +kernel
theorem dX1_init_9 : decode cX1_init 9 = .ok (.putfield 9, 3) := by decide +kernel
theorem dX1_init_12 : decode cX1_init 12 = .ok (.aload_n 0, 1) := by decide +kernel
theorem dX1_init_13 : decode cX1_init 13 = .ok (.iconst 0, 1) := by decide +kernel
theorem dX1_init_14 : decode cX1_init 14 = .ok (.putfield 15, 3) := by decide +kernel
theorem dX1_init_17 : decode cX1_init 17 = .ok (.return_, 1) := by decide +kernel
set_option maxRecDepth 20000 in
theorem ggX1_setGenerators_X5_generatedWord : GoodIn wsX1_setGenerators wsX5_generatedWord := goodIn_r _ [9] (by decide +kernel) (by decide +kernel)
set_option maxRecDepth 20000 in
theorem gX1_setGenerators_X5_generatedWord_n19 : GoodIn wsX1_setGenerators (wsX5_generatedWord) := ggX1_setGenerators_X5_generatedWord
set_option maxRecDepth 20000 in
theorem ggX1_setGenerators_J6_bitCount_0f7a4 : GoodIn wsX1_setGenerators wsJ6_bitCount_0f7a4 := goodIn_r _ [13, 14, 15, 16] (by decide +kernel) (by decide +kernel)
set_option maxRecDepth 20000 in
theorem gX1_setGenerators_J6_bitCount_0f7a4 : GoodIn wsX1_setGenerators (va_wsS RX1 23 yJ6_bitCount_0f7a4 wsJ6_bitCount_0f7a4) := goodIn_app (goodIn_of _ (by decide +kernel)) ggX1_setGenerators_J6_bitCount_0f7a4
theorem dX1_setGenerators_0 : decode cX1_setGenerators 0 = .ok (.aload_n 0, 1) := by decide +kernel
theorem dX1_setGenerators_1 : decode cX1_setGenerators 1 = .ok (.bipush 10, 2) := by decide +kernel
theorem dX1_setGenerators_3 : decode cX1_setGenerators 3 = .ok (.putfield 15, 3) := by decide +kernel
theorem dX1_setGenerators_6 : decode cX1_setGenerators 6 = .ok (.aload_n 0, 1) := by decide +kernel
theorem dX1_setGenerators_7 : decode cX1_setGenerators 7 = .ok (.getfield 9, 3) := by decide +kernel
theorem dX1_setGenerators_10 : decode cX1_setGenerators 10 = .ok (.iconst 0, 1) := by decide +kernel
theorem dX1_setGenerators_11 : decode cX1_setGenerators 11 = .ok (.iconst 0, 1) := by decide +kernel
theorem dX1_setGenerators_12 : decode cX1_setGenerators 12 = .ok (.iastore, 1) := by decide +kernel
theorem dX1_setGenerators_13 : decode cX1_setGenerators 13 = .ok (.iconst 1, 1) := by decide +kernel
theorem dX1_setGenerators_14 : decode cX1_setGenerators 14 = .ok (.istore_n 2, 1) := by decide +kernel
theorem dX1_setGenerators_15 : decode cX1_setGenerators 15 = .ok (.iload_n 2, 1) := by decide +kernel
theorem dX1_setGenerators_16 : decode cX1_setGenerators 16 = .ok (.bipush 16, 2) := by decide +kernel
theorem dX1_setGenerators_18 : decode cX1_setGenerators 18 = .ok (.if_icmp .ge 40, 3) := by decide +kernel
theorem dX1_setGenerators_21 : decode cX1_setGenerators 21 = .ok (.aload_n 0, 1) := by decide +kernel
theorem dX1_setGenerators_22 : decode cX1_setGenerators 22 = .ok (.getfield 9, 3) := by decide +kernel
theorem dX1_setGenerators_25 : decode cX1_setGenerators 25 = .ok (.iload_n 2, 1) := by decide +kernel
theorem dX1_setGenerators_26 : decode cX1_setGenerators 26 = .ok (.aload_n 1, 1) := by decide +kernel
theorem dX1_setGenerators_27 : decode cX1_setGenerators 27 = .ok (.iload_n 2, 1) := by decide +kernel
theorem dX1_setGenerators_28 : decode cX1_setGenerators 28 = .ok (.invokestatic 19, 3) := by decide +kernel
theorem dX1_setGenerators_31 : decode cX1_setGenerators 31 = .ok (.iastore, 1) := by decide +kernel
theorem dX1_setGenerators_32 : decode cX1_setGenerators 32 = .ok (.aload_n 0, 1) := by decide +kernel
theorem dX1_setGenerators_33 : decode cX1_setGenerators 33 = .ok (.aload_n 0, 1) := by decide +kernel
theorem dX1_setGenerators_34 : decode cX1_setGenerators 34 = .ok (.getfield 15, 3) := by decide +kernel
theorem dX1_setGenerators_37 : decode cX1_setGenerators 37 = .ok (.aload_n 0, 1) := by decide +kernel
theorem dX1_setGenerators_38 : decode cX1_setGenerators 38 = .ok (.getfield 9, 3) := by decide +kernel
theorem dX1_setGenerators_41 : decode cX1_setGenerators 41 = .ok (.iload_n 2, 1) := by decide +kernel
theorem dX1_setGenerators_42 : decode cX1_setGenerators 42 = .ok (.iaload, 1) := by decide +kernel
theorem dX1_setGenerators_43 : decode cX1_setGenerators 43 = .ok (.invokestatic 23, 3) := by decide +kernel
theorem dX1_setGenerators_46 : decode cX1_setGenerators 46 = .ok (.invokestatic 29, 3) := by decide +kernel
theorem dX1_setGenerators_49 : decode cX1_setGenerators 49 = .ok (.putfield 15, 3) := by decide +kernel
theorem dX1_setGenerators_52 : decode cX1_setGenerators 52 = .ok (.iinc 2 1, 3) := by decide +kernel
theorem dX1_setGenerators_55 : decode cX1_setGenerators 55 = .ok (.goto (-40), 3) := by decide +kernel
theorem dX1_setGenerators_58 : decode cX1_setGenerators 58 = .ok (.return_, 1) := by decide +kernel
set_option maxRecDepth 20000 in
theorem ggX1_bitsBetween_J6_bitCount_0f7a4 : GoodIn wsX1_bitsBetween wsJ6_bitCount_0f7a4 := goodIn_r _ [5, 6, 7, 8] (by decide +kernel) (by decide +kernel)
set_option maxRecDepth 20000 in
theorem gX1_bitsBetween_J6_bitCount_0f7a4 : GoodIn wsX1_bitsBetween (va_wsS RX1 23 yJ6_bitCount_0f7a4 wsJ6_bitCount_0f7a4) := goodIn_app (goodIn_of _ (by decide +kernel)) ggX1_bitsBetween_J6_bitCount_0f7a4
theorem dX1_bitsBetween_0 : decode cX1_bitsBetween 0 = .ok (.iload_n 1, 1) := by decide +kernel
theorem dX1_bitsBetween_1 : decode cX1_bitsBetween 1 = .ok (.aload_n 0, 1) := by decide +kernel
theorem dX1_bitsBetween_2 : decode cX1_bitsBetween 2 = .ok (.getfield 9, 3) := by decide +kernel
theorem dX1_bitsBetween_5 : decode cX1_bitsBetween 5 = .ok (.iload_n 2, 1) := by decide +kernel
theorem dX1_bitsBetween_6 : decode cX1_bitsBetween 6 = .ok (.iaload, 1) := by decide +kernel
theorem dX1_bitsBetween_7 : decode cX1_bitsBetween 7 = .ok (.ixor, 1) := by decide +kernel
theorem dX1_bitsBetween_8 : decode cX1_bitsBetween 8 = .ok (.invokestatic 23, 3) := by decide +kernel
theorem dX1_bitsBetween_11 : decode cX1_bitsBetween 11 = .ok (.ireturn, 1) := by decide +kernel
set_option maxRecDepth 20000 in
theorem ggX1_symbolOf_X1_bitsBetween : GoodIn wsX1_symbolOf wsX1_bitsBetween := goodIn_r _ [5, 6, 7, 8, 9, 10, 11, 12, 13, 14, 15] (by decide +kernel) (by decide +kernel)
set_option maxRecDepth 20000 in
theorem gX1_symbolOf_X1_bitsBetween : GoodIn wsX1_symbolOf (wsV RX1 35 RX1 yX1_bitsBetween wsX1_bitsBetween) := goodIn_app (goodIn_of _ (by decide +kernel)) ggX1_symbolOf_X1_bitsBetween
theorem dX1_symbolOf_0 : decode cX1_symbolOf 0 = .ok (.iconst 0, 1) := by decide +kernel
theorem dX1_symbolOf_1 : decode cX1_symbolOf 1 = .ok (.istore_n 2, 1) := by decide +kernel
theorem dX1_symbolOf_2 : decode cX1_symbolOf 2 = .ok (.iconst 1, 1) := by decide +kernel
theorem dX1_symbolOf_3 : decode cX1_symbolOf 3 = .ok (.istore_n 3, 1) := by decide +kernel
theorem dX1_symbolOf_4 : decode cX1_symbolOf 4 = .ok (.iload_n 3, 1) := by decide +kernel
theorem dX1_symbolOf_5 : decode cX1_symbolOf 5 = .ok (.bipush 16, 2) := by decide +kernel
theorem dX1_symbolOf_7 : decode cX1_symbolOf 7 = .ok (.if_icmp .ge 26, 3) := by decide +kernel
theorem dX1_symbolOf_10 : decode cX1_symbolOf 10 = .ok (.aload_n 0, 1) := by decide +kernel
theorem dX1_symbolOf_11 : decode cX1_symbolOf 11 = .ok (.iload_n 1, 1) := by decide +kernel
theorem dX1_symbolOf_12 : decode cX1_symbolOf 12 = .ok (.iload_n 3, 1) := by decide +kernel
theorem dX1_symbolOf_13 : decode cX1_symbolOf 13 = .ok (.invokevirtual 35, 3) := by decide +kernel
theorem dX1_symbolOf_16 : decode cX1_symbolOf 16 = .ok (.aload_n 0, 1) := by decide +kernel
theorem dX1_symbolOf_17 : decode cX1_symbolOf 17 = .ok (.iload_n 1, 1) := by decide +kernel
theorem dX1_symbolOf_18 : decode cX1_symbolOf 18 = .ok (.iload_n 2, 1) := by decide +kernel
theorem dX1_symbolOf_19 : decode cX1_symbolOf 19 = .ok (.invokevirtual 35, 3) := by decide +kernel
theorem dX1_symbolOf_22 : decode cX1_symbolOf 22 = .ok (.if_icmp .ge 5, 3) := by decide +kernel
theorem dX1_symbolOf_25 : decode cX1_symbolOf 25 = .ok (.iload_n 3, 1) := by decide +kernel
theorem dX1_symbolOf_26 : decode cX1_symbolOf 26 = .ok (.istore_n 2, 1) := by decide +kernel
theorem dX1_symbolOf_27 : decode cX1_symbolOf 27 = .ok (.iinc 3 1, 3) := by decide +kernel
theorem dX1_symbolOf_30 : decode cX1_symbolOf 30 = .ok (.goto (-26), 3) := by decide +kernel
theorem dX1_symbolOf_33 : decode cX1_symbolOf 33 = .ok (.iload_n 2, 1) := by decide +kernel
theorem dX1_symbolOf_34 : decode cX1_symbolOf 34 = .ok (.ireturn, 1) := by decide +kernel
theorem dX1_reliability_0 : decode cX1_reliability 0 = .ok (.aload_n 0, 1) := by decide +kernel
theorem dX1_reliability_1 : decode cX1_reliability 1 = .ok (.getfield 15, 3) := by decide +kernel
theorem dX1_reliability_4 : decode cX1_reliability 4 = .ok (.iconst 2, 1) := by decide +kernel
theorem dX1_reliability_5 : decode cX1_reliability 5 = .ok (.iload_n 1, 1) := by decide +kernel
theorem dX1_reliability_6 : decode cX1_reliability 6 = .ok (.imul, 1) := by decide +kernel
theorem dX1_reliability_7 : decode cX1_reliability 7 = .ok (.isub, 1) := by decide +kernel
theorem dX1_reliability_8 : decode cX1_reliability 8 = .ok (.iconst 0, 1) := by decide +kernel
theorem dX1_reliability_9 : decode cX1_reliability 9 = .ok (.invokestatic 38, 3) := by decide +kernel
theorem dX1_reliability_12 : decode cX1_reliability 12 = .ok (.ireturn, 1) := by decide +kernel
set_option maxRecDepth 20000 in
theorem ggX2_init_X5_fieldProduct : GoodIn wsX2_init wsX5_fieldProduct := goodIn_r _ [8] (by decide +kernel) (by decide +kernel)
set_option maxRecDepth 20000 in
theorem gX2_init_X5_fieldProduct_n15 : GoodIn wsX2_init (wsX5_fieldProduct) := ggX2_init_X5_fieldProduct
theorem dX2_init_0 : decode cX2_init 0 = .ok (.aload_n 0, 1) := by decide +kernel
theorem dX2_init_1 : decode cX2_init 1 = .ok (.invokespecial 3, 3) := by decide +kernel
theorem dX2_init_4 : decode cX2_init 4 = .ok (.aload_n 0, 1) := by decide +kernel
theorem dX2_init_5 : decode cX2_init 5 = .ok (.bipush 48, 2) := by decide +kernel
theorem dX2_init_7 : decode cX2_init 7 = .ok (.newarray .long, 2) := by decide +kernel
theorem dX2_init_9 : decode cX2_init 9 = .ok (.putfield 9, 3) := by decide +kernel
theorem dX2_init_12 : decode cX2_init 12 = .ok (.iconst 0, 1) := by decide +kernel
theorem dX2_init_13 : decode cX2_init 13 = .ok (.istore_n 1, 1) := by decide +kernel
theorem dX2_init_14 : decode cX2_init 14 = .ok (.iload_n 1, 1) := by decide +kernel
theorem dX2_init_15 : decode cX2_init 15 = .ok (.bipush 16, 2) := by decide +kernel
theorem dX2_init_17 : decode cX2_init 17 = .ok (.if_icmp .ge 69, 3) := by decide +kernel
theorem dX2_init_20 : decode cX2_init 20 = .ok (.iconst 0, 1) := by decide +kernel
theorem dX2_init_21 : decode cX2_init 21 = .ok (.istore_n 2, 1) := by decide +kernel
theorem dX2_init_22 : decode cX2_init 22 = .ok (.iload_n 2, 1) := by decide +kernel
theorem dX2_init_23 : decode cX2_init 23 = .ok (.bipush 12, 2) := by decide +kernel
theorem dX2_init_25 : decode cX2_init 25 = .ok (.if_icmp .ge 55, 3) := by decide +kernel
theorem dX2_init_28 : decode cX2_init 28 = .ok (.iload_n 1, 1) := by decide +kernel
theorem dX2_init_29 : decode cX2_init 29 = .ok (.istore_n 3, 1) := by decide +kernel
theorem dX2_init_30 : decode cX2_init 30 = .ok (.iconst 0, 1) := by decide +kernel
theorem dX2_init_31 : decode cX2_init 31 = .ok (.istore 4, 2) := by decide +kernel
theorem dX2_init_33 : decode cX2_init 33 = .ok (.iload 4, 2) := by decide +kernel
theorem dX2_init_35 : decode cX2_init 35 = .ok (.iconst 3, 1) := by decide +kernel
theorem dX2_init_36 : decode cX2_init 36 = .ok (.if_icmp .ge 38, 3) := by decide +kernel
theorem dX2_init_39 : decode cX2_init 39 = .ok (.aload_n 0, 1) := by decide +kernel
theorem dX2_init_40 : decode cX2_init 40 = .ok (.getfield 9, 3) := by decide +kernel
theorem dX2_init_43 : decode cX2_init 43 = .ok (.bipush 16, 2) := by decide +kernel
theorem dX2_init_45 : decode cX2_init 45 = .ok (.iload 4, 2) := by decide +kernel
theorem dX2_init_47 : decode cX2_init 47 = .ok (.imul, 1) := by decide +kernel
theorem dX2_init_48 : decode cX2_init 48 = .ok (.iload_n 1, 1) := by decide +kernel
theorem dX2_init_49 : decode cX2_init 49 = .ok (.iadd, 1) := by decide +kernel
theorem dX2_init_50 : decode cX2_init 50 = .ok (.dup2, 1) := by decide +kernel
theorem dX2_init_51 : decode cX2_init 51 = .ok (.laload, 1) := by decide +kernel
theorem dX2_init_52 : decode cX2_init 52 = .ok (.iload_n 3, 1) := by decide +kernel
theorem dX2_init_53 : decode cX2_init 53 = .ok (.i2l, 1) := by decide +kernel
theorem dX2_init_54 : decode cX2_init 54 = .ok (.iconst 4, 1) := by decide +kernel
theorem dX2_init_55 : decode cX2_init 55 = .ok (.iload_n 2, 1) := by decide +kernel
theorem dX2_init_56 : decode cX2_init 56 = .ok (.imul, 1) := by decide +kernel
theorem dX2_init_57 : decode cX2_init 57 = .ok (.lshl, 1) := by decide +kernel
theorem dX2_init_58 : decode cX2_init 58 = .ok (.lor, 1) := by decide +kernel
theorem dX2_init_59 : decode cX2_init 59 = .ok (.lastore, 1) := by decide +kernel
theorem dX2_init_60 : decode cX2_init 60 = .ok (.iload_n 3, 1) := by decide +kernel
theorem dX2_init_61 : decode cX2_init 61 = .ok (.iload_n 2, 1) := by decide +kernel
theorem dX2_init_62 : decode cX2_init 62 = .ok (.iconst 1, 1) := by decide +kernel
theorem dX2_init_63 : decode cX2_init 63 = .ok (.iadd, 1) := by decide +kernel
theorem dX2_init_64 : decode cX2_init 64 = .ok (.invokestatic 15, 3) := by decide +kernel
theorem dX2_init_67 : decode cX2_init 67 = .ok (.istore_n 3, 1) := by decide +kernel
theorem dX2_init_68 : decode cX2_init 68 = .ok (.iinc 4 1, 3) := by decide +kernel
theorem dX2_init_71 : decode cX2_init 71 = .ok (.goto (-38), 3) := by decide +kernel
theorem dX2_init_74 : decode cX2_init 74 = .ok (.iinc 2 1, 3) := by decide +kernel
theorem dX2_init_77 : decode cX2_init 77 = .ok (.goto (-55), 3) := by decide +kernel
theorem dX2_init_80 : decode cX2_init 80 = .ok (.iinc 1 1, 3) := by decide +kernel
theorem dX2_init_83 : decode cX2_init 83 = .ok (.goto (-69), 3) := by decide +kernel
theorem dX2_init_86 : decode cX2_init 86 = .ok (.return_, 1) := by decide +kernel
theorem dX2_codeword_0 : decode cX2_codeword 0 = .ok (.bipush 15, 2) := by decide +kernel
theorem dX2_codeword_2 : decode cX2_codeword 2 = .ok (.istore_n 2, 1) := by decide +kernel
theorem dX2_codeword_3 : decode cX2_codeword 3 = .ok (.aload_n 0, 1) := by decide +kernel
theorem dX2_codeword_4 : decode cX2_codeword 4 = .ok (.getfield 9, 3) := by decide +kernel
theorem dX2_codeword_7 : decode cX2_codeword 7 = .ok (.iload_n 1, 1) := by decide +kernel
theorem dX2_codeword_8 : decode cX2_codeword 8 = .ok (.iload_n 2, 1) := by decide +kernel
theorem dX2_codeword_9 : decode cX2_codeword 9 = .ok (.iand, 1) := by decide +kernel
theorem dX2_codeword_10 : decode cX2_codeword 10 = .ok (.laload, 1) := by decide +kernel
theorem dX2_codeword_11 : decode cX2_codeword 11 = .ok (.aload_n 0, 1) := by decide +kernel
theorem dX2_codeword_12 : decode cX2_codeword 12 = .ok (.getfield 9, 3) := by decide +kernel
theorem dX2_codeword_15 : decode cX2_codeword 15 = .ok (.bipush 16, 2) := by decide +kernel
theorem dX2_codeword_17 : decode cX2_codeword 17 = .ok (.iload_n 1, 1) := by decide +kernel
theorem dX2_codeword_18 : decode cX2_codeword 18 = .ok (.iconst 4, 1) := by decide +kernel
theorem dX2_codeword_19 : decode cX2_codeword 19 = .ok (.ishr, 1) := by decide +kernel
theorem dX2_codeword_20 : decode cX2_codeword 20 = .ok (.iload_n 2, 1) := by decide +kernel
theorem dX2_codeword_21 : decode cX2_codeword 21 = .ok (.iand, 1) := by decide +kernel
theorem dX2_codeword_22 : decode cX2_codeword 22 = .ok (.iadd, 1) := by decide +kernel
theorem dX2_codeword_23 : decode cX2_codeword 23 = .ok (.laload, 1) := by decide +kernel
theorem dX2_codeword_24 : decode cX2_codeword 24 = .ok (.lxor, 1) := by decide +kernel
theorem dX2_codeword_25 : decode cX2_codeword 25 = .ok (.aload_n 0, 1) := by decide +kernel
theorem dX2_codeword_26 : decode cX2_codeword 26 = .ok (.getfield 9, 3) := by decide +kernel
theorem dX2_codeword_29 : decode cX2_codeword 29 = .ok (.bipush 32, 2) := by decide +kernel
theorem dX2_codeword_31 : decode cX2_codeword 31 = .ok (.iload_n 1, 1) := by decide +kernel
theorem dX2_codeword_32 : decode cX2_codeword 32 = .ok (.bipush 8, 2) := by decide +kernel
theorem dX2_codeword_34 : decode cX2_codeword 34 = .ok (.ishr, 1) := by decide +kernel
theorem dX2_codeword_35 : decode cX2_codeword 35 = .ok (.iload_n 2, 1) := by decide +kernel
theorem dX2_codeword_36 : decode cX2_codeword 36 = .ok (.iand, 1) := by decide +kernel
theorem dX2_codeword_37 : decode cX2_codeword 37 = .ok (.iadd, 1) := by decide +kernel
theorem dX2_codeword_38 : decode cX2_codeword 38 = .ok (.laload, 1) := by decide +kernel
theorem dX2_codeword_39 : decode cX2_codeword 39 = .ok (.lxor, 1) := by decide +kernel
theorem dX2_codeword_40 : decode cX2_codeword 40 = .ok (.lreturn, 1) := by decide +kernel
theorem dX2_markSymbols_0 : decode cX2_markSymbols 0 = .ok (.lload_n 0, 1) := by decide +kernel
theorem dX2_markSymbols_1 : decode cX2_markSymbols 1 = .ok (.lload_n 0, 1) := by decide +kernel
theorem dX2_markSymbols_2 : decode cX2_markSymbols 2 = .ok (.iconst 1, 1) := by decide +kernel
theorem dX2_markSymbols_3 : decode cX2_markSymbols 3 = .ok (.lushr, 1) := by decide +kernel
theorem dX2_markSymbols_4 : decode cX2_markSymbols 4 = .ok (.lor, 1) := by decide +kernel
theorem dX2_markSymbols_5 : decode cX2_markSymbols 5 = .ok (.lstore_n 2, 1) := by decide +kernel
theorem dX2_markSymbols_6 : decode cX2_markSymbols 6 = .ok (.lload_n 2, 1) := by decide +kernel
theorem dX2_markSymbols_7 : decode cX2_markSymbols 7 = .ok (.lload_n 2, 1) := by decide +kernel
theorem dX2_markSymbols_8 : decode cX2_markSymbols 8 = .ok (.iconst 2, 1) := by decide +kernel
theorem dX2_markSymbols_9 : decode cX2_markSymbols 9 = .ok (.lushr, 1) := by decide +kernel
theorem dX2_markSymbols_10 : decode cX2_markSymbols 10 = .ok (.lor, 1) := by decide +kernel
theorem dX2_markSymbols_11 : decode cX2_markSymbols 11 = .ok (.ldc2_w 19, 3) := by decide +kernel
theorem dX2_markSymbols_14 : decode cX2_markSymbols 14 = .ok (.land, 1) := by decide +kernel
theorem dX2_markSymbols_15 : decode cX2_markSymbols 15 = .ok (.lreturn, 1) := by decide +kernel
theorem dX2_marks_0 : decode cX2_marks 0 = .ok (.ldc2_w 19, 3) := by decide +kernel
theorem dX2_marks_3 : decode cX2_marks 3 = .ok (.lconst 1, 1) := by decide +kernel
theorem dX2_marks_4 : decode cX2_marks 4 = .ok (.iconst 4, 1) := by decide +kernel
theorem dX2_marks_5 : decode cX2_marks 5 = .ok (.iload_n 0, 1) := by decide +kernel
theorem dX2_marks_6 : decode cX2_marks 6 = .ok (.imul, 1) := by decide +kernel
theorem dX2_marks_7 : decode cX2_marks 7 = .ok (.lshl, 1) := by decide +kernel
theorem dX2_marks_8 : decode cX2_marks 8 = .ok (.lconst 1, 1) := by decide +kernel
theorem dX2_marks_9 : decode cX2_marks 9 = .ok (.lsub, 1) := by decide +kernel
theorem dX2_marks_10 : decode cX2_marks 10 = .ok (.land, 1) := by decide +kernel
theorem dX2_marks_11 : decode cX2_marks 11 = .ok (.lreturn, 1) := by decide +kernel
theorem dX3_init_0 : decode cX3_init 0 = .ok (.aload_n 0, 1) := by decide +kernel
theorem dX3_init_1 : decode cX3_init 1 = .ok (.invokespecial 3, 3) := by decide +kernel
theorem dX3_init_4 : decode cX3_init 4 = .ok (.aload_n 0, 1) := by decide +kernel
theorem dX3_init_5 : decode cX3_init 5 = .ok (.bipush 12, 2) := by decide +kernel
theorem dX3_init_7 : decode cX3_init 7 = .ok (.newarray .int, 2) := by decide +kernel
theorem dX3_init_9 : decode cX3_init 9 = .ok (.putfield 9, 3) := by decide +kernel
theorem dX3_init_12 : decode cX3_init 12 = .ok (.aload_n 0, 1) := by decide +kernel
theorem dX3_init_13 : decode cX3_init 13 = .ok (.bipush 12, 2) := by decide +kernel
theorem dX3_init_15 : decode cX3_init 15 = .ok (.newarray .int, 2) := by decide +kernel
theorem dX3_init_17 : decode cX3_init 17 = .ok (.putfield 15, 3) := by decide +kernel
theorem dX3_init_20 : decode cX3_init 20 = .ok (.aload_n 0, 1) := by decide +kernel
theorem dX3_init_21 : decode cX3_init 21 = .ok (.bipush 12, 2) := by decide +kernel
theorem dX3_init_23 : decode cX3_init 23 = .ok (.newarray .int, 2) := by decide +kernel
theorem dX3_init_25 : decode cX3_init 25 = .ok (.putfield 18, 3) := by decide +kernel
theorem dX3_init_28 : decode cX3_init 28 = .ok (.aload_n 0, 1) := by decide +kernel
theorem dX3_init_29 : decode cX3_init 29 = .ok (.bipush 12, 2) := by decide +kernel
theorem dX3_init_31 : decode cX3_init 31 = .ok (.newarray .int, 2) := by decide +kernel
theorem dX3_init_33 : decode cX3_init 33 = .ok (.putfield 21, 3) := by decide +kernel
theorem dX3_init_36 : decode cX3_init 36 = .ok (.aload_n 0, 1) := by decide +kernel
theorem dX3_init_37 : decode cX3_init 37 = .ok (.bipush 12, 2) := by decide +kernel
theorem dX3_init_39 : decode cX3_init 39 = .ok (.newarray .int, 2) := by decide +kernel
theorem dX3_init_41 : decode cX3_init 41 = .ok (.putfield 24, 3) := by decide +kernel
theorem dX3_init_44 : decode cX3_init 44 = .ok (.aload_n 0, 1) := by decide +kernel
theorem dX3_init_45 : decode cX3_init 45 = .ok (.iconst 0, 1) := by decide +kernel
theorem dX3_init_46 : decode cX3_init 46 = .ok (.putfield 27, 3) := by decide +kernel
theorem dX3_init_49 : decode cX3_init 49 = .ok (.aload_n 0, 1) := by decide +kernel
theorem dX3_init_50 : decode cX3_init 50 = .ok (.lconst 0, 1) := by decide +kernel
theorem dX3_init_51 : decode cX3_init 51 = .ok (.putfield 31, 3) := by decide +kernel
theorem dX3_init_54 : decode cX3_init 54 = .ok (.aload_n 0, 1) := by decide +kernel
theorem dX3_init_55 : decode cX3_init 55 = .ok (.lconst 0, 1) := by decide +kernel
theorem dX3_init_56 : decode cX3_init 56 = .ok (.putfield 35, 3) := by decide +kernel
theorem dX3_init_59 : decode cX3_init 59 = .ok (.return_, 1) := by decide +kernel
set_option maxRecDepth 20000 in
theorem ggX3_read_X2_marks : GoodIn wsX3_read wsX2_marks := goodIn_r _ [9, 10] (by decide +kernel) (by decide +kernel)
set_option maxRecDepth 20000 in
theorem gX3_read_X2_marks_n41 : GoodIn wsX3_read (wsX2_marks) := ggX3_read_X2_marks
set_option maxRecDepth 20000 in
theorem ggX3_read_X3_readBlock : GoodIn wsX3_read wsX3_readBlock := goodIn_r _ [15, 4, 16, 17, 18, 19, 20, 21, 22, 23, 24, 25, 26, 27, 28, 29, 30, 31, 32, 33, 34, 35, 36, 37, 38, 39, 40, 41, 46, 47, 48, 49, 50, 51, 52, 53, 54, 55, 56, 57, 58, 59, 60, 61, 62] (by decide +kernel) (by decide +kernel)
set_option maxRecDepth 20000 in
theorem gX3_read_X3_readBlock : GoodIn wsX3_read (wsV RX3 47 RX3 yX3_readBlock wsX3_readBlock) := goodIn_app (goodIn_of _ (by decide +kernel)) ggX3_read_X3_readBlock
set_option maxRecDepth 20000 in
theorem ggX3_read_X3_blocksBefore : GoodIn wsX3_read wsX3_blocksBefore := goodIn_r _ [45, 1, 17, 53, 54, 55, 56, 57, 58, 59, 60] (by decide +kernel) (by decide +kernel)
set_option maxRecDepth 20000 in
theorem gX3_read_X3_blocksBefore : GoodIn wsX3_read (wsV RX3 51 RX3 yX3_blocksBefore wsX3_blocksBefore) := goodIn_app (goodIn_of _ (by decide +kernel)) ggX3_read_X3_blocksBefore
theorem dX3_read_0 : decode cX3_read 0 = .ok (.aload_n 0, 1) := by decide +kernel
theorem dX3_read_1 : decode cX3_read 1 = .ok (.aload_n 1, 1) := by decide +kernel
theorem dX3_read_2 : decode cX3_read 2 = .ok (.getfield 38, 3) := by decide +kernel
theorem dX3_read_5 : decode cX3_read 5 = .ok (.putfield 27, 3) := by decide +kernel
theorem dX3_read_8 : decode cX3_read 8 = .ok (.aload_n 0, 1) := by decide +kernel
theorem dX3_read_9 : decode cX3_read 9 = .ok (.aload_n 0, 1) := by decide +kernel
theorem dX3_read_10 : decode cX3_read 10 = .ok (.getfield 27, 3) := by decide +kernel
theorem dX3_read_13 : decode cX3_read 13 = .ok (.invokestatic 41, 3) := by decide +kernel
theorem dX3_read_16 : decode cX3_read 16 = .ok (.putfield 35, 3) := by decide +kernel
theorem dX3_read_19 : decode cX3_read 19 = .ok (.aload_n 0, 1) := by decide +kernel
theorem dX3_read_20 : decode cX3_read 20 = .ok (.lconst 0, 1) := by decide +kernel
theorem dX3_read_21 : decode cX3_read 21 = .ok (.putfield 31, 3) := by decide +kernel
theorem dX3_read_24 : decode cX3_read 24 = .ok (.iconst 0, 1) := by decide +kernel
theorem dX3_read_25 : decode cX3_read 25 = .ok (.istore_n 3, 1) := by decide +kernel
theorem dX3_read_26 : decode cX3_read 26 = .ok (.iload_n 3, 1) := by decide +kernel
theorem dX3_read_27 : decode cX3_read 27 = .ok (.aload_n 0, 1) := by decide +kernel
theorem dX3_read_28 : decode cX3_read 28 = .ok (.getfield 27, 3) := by decide +kernel
theorem dX3_read_31 : decode cX3_read 31 = .ok (.if_icmp .ge 36, 3) := by decide +kernel
theorem dX3_read_34 : decode cX3_read 34 = .ok (.aload_n 0, 1) := by decide +kernel
theorem dX3_read_35 : decode cX3_read 35 = .ok (.iload_n 3, 1) := by decide +kernel
theorem dX3_read_36 : decode cX3_read 36 = .ok (.aload_n 1, 1) := by decide +kernel
theorem dX3_read_37 : decode cX3_read 37 = .ok (.aload_n 2, 1) := by decide +kernel
theorem dX3_read_38 : decode cX3_read 38 = .ok (.invokevirtual 47, 3) := by decide +kernel
theorem dX3_read_41 : decode cX3_read 41 = .ok (.aload_n 0, 1) := by decide +kernel
theorem dX3_read_42 : decode cX3_read 42 = .ok (.dup, 1) := by decide +kernel
theorem dX3_read_43 : decode cX3_read 43 = .ok (.getfield 31, 3) := by decide +kernel
theorem dX3_read_46 : decode cX3_read 46 = .ok (.aload_n 0, 1) := by decide +kernel
theorem dX3_read_47 : decode cX3_read 47 = .ok (.getfield 9, 3) := by decide +kernel
theorem dX3_read_50 : decode cX3_read 50 = .ok (.iload_n 3, 1) := by decide +kernel
theorem dX3_read_51 : decode cX3_read 51 = .ok (.iaload, 1) := by decide +kernel
theorem dX3_read_52 : decode cX3_read 52 = .ok (.i2l, 1) := by decide +kernel
theorem dX3_read_53 : decode cX3_read 53 = .ok (.iconst 4, 1) := by decide +kernel
theorem dX3_read_54 : decode cX3_read 54 = .ok (.iload_n 3, 1) := by decide +kernel
theorem dX3_read_55 : decode cX3_read 55 = .ok (.imul, 1) := by decide +kernel
theorem dX3_read_56 : decode cX3_read 56 = .ok (.lshl, 1) := by decide +kernel
theorem dX3_read_57 : decode cX3_read 57 = .ok (.lor, 1) := by decide +kernel
theorem dX3_read_58 : decode cX3_read 58 = .ok (.putfield 31, 3) := by decide +kernel
theorem dX3_read_61 : decode cX3_read 61 = .ok (.iinc 3 1, 3) := by decide +kernel
theorem dX3_read_64 : decode cX3_read 64 = .ok (.goto (-38), 3) := by decide +kernel
theorem dX3_read_67 : decode cX3_read 67 = .ok (.iconst 0, 1) := by decide +kernel
theorem dX3_read_68 : decode cX3_read 68 = .ok (.istore_n 3, 1) := by decide +kernel
theorem dX3_read_69 : decode cX3_read 69 = .ok (.iload_n 3, 1) := by decide +kernel
theorem dX3_read_70 : decode cX3_read 70 = .ok (.aload_n 0, 1) := by decide +kernel
theorem dX3_read_71 : decode cX3_read 71 = .ok (.getfield 27, 3) := by decide +kernel
theorem dX3_read_74 : decode cX3_read 74 = .ok (.if_icmp .ge 32, 3) := by decide +kernel
theorem dX3_read_77 : decode cX3_read 77 = .ok (.aload_n 0, 1) := by decide +kernel
theorem dX3_read_78 : decode cX3_read 78 = .ok (.getfield 24, 3) := by decide +kernel
theorem dX3_read_81 : decode cX3_read 81 = .ok (.iload_n 3, 1) := by decide +kernel
theorem dX3_read_82 : decode cX3_read 82 = .ok (.aload_n 0, 1) := by decide +kernel
theorem dX3_read_83 : decode cX3_read 83 = .ok (.iload_n 3, 1) := by decide +kernel
theorem dX3_read_84 : decode cX3_read 84 = .ok (.invokevirtual 51, 3) := by decide +kernel
theorem dX3_read_87 : decode cX3_read 87 = .ok (.iastore, 1) := by decide +kernel
theorem dX3_read_88 : decode cX3_read 88 = .ok (.aload_n 0, 1) := by decide +kernel
theorem dX3_read_89 : decode cX3_read 89 = .ok (.getfield 21, 3) := by decide +kernel
theorem dX3_read_92 : decode cX3_read 92 = .ok (.aload_n 0, 1) := by decide +kernel
theorem dX3_read_93 : decode cX3_read 93 = .ok (.getfield 24, 3) := by decide +kernel
theorem dX3_read_96 : decode cX3_read 96 = .ok (.iload_n 3, 1) := by decide +kernel
theorem dX3_read_97 : decode cX3_read 97 = .ok (.iaload, 1) := by decide +kernel
theorem dX3_read_98 : decode cX3_read 98 = .ok (.iload_n 3, 1) := by decide +kernel
theorem dX3_read_99 : decode cX3_read 99 = .ok (.iastore, 1) := by decide +kernel
theorem dX3_read_100 : decode cX3_read 100 = .ok (.iinc 3 1, 3) := by decide +kernel
theorem dX3_read_103 : decode cX3_read 103 = .ok (.goto (-34), 3) := by decide +kernel
theorem dX3_read_106 : decode cX3_read 106 = .ok (.return_, 1) := by decide +kernel
set_option maxRecDepth 20000 in
theorem ggX3_readBlock_X1_symbolOf : GoodIn wsX3_readBlock wsX1_symbolOf := goodIn_r _ [7, 8, 9, 10, 5, 11, 12, 13, 14, 15, 16, 17, 18, 19, 43, 44] (by decide +kernel) (by decide +kernel)
set_option maxRecDepth 20000 in
theorem gX3_readBlock_X1_symbolOf_n62 : GoodIn wsX3_readBlock (wsX1_symbolOf) := ggX3_readBlock_X1_symbolOf
set_option maxRecDepth 20000 in
theorem ggX3_readBlock_X1_bitsBetween : GoodIn wsX3_readBlock wsX1_bitsBetween := goodIn_r _ [11, 12, 13, 14, 15, 16, 17, 18, 19, 43, 44] (by decide +kernel) (by decide +kernel)
set_option maxRecDepth 20000 in
theorem gX3_readBlock_X1_bitsBetween_n67 : GoodIn wsX3_readBlock (wsX1_bitsBetween) := ggX3_readBlock_X1_bitsBetween
set_option maxRecDepth 20000 in
theorem ggX3_readBlock_X1_reliability : GoodIn wsX3_readBlock wsX1_reliability := goodIn_r _ [22, 23, 24, 25, 26, 27, 43, 44] (by decide +kernel) (by decide +kernel)
set_option maxRecDepth 20000 in
theorem gX3_readBlock_X1_reliability_n71 : GoodIn wsX3_readBlock (wsX1_reliability) := ggX3_readBlock_X1_reliability
theorem dX3_readBlock_0 : decode cX3_readBlock 0 = .ok (.aload_n 2, 1) := by decide +kernel
theorem dX3_readBlock_1 : decode cX3_readBlock 1 = .ok (.getfield 55, 3) := by decide +kernel
theorem dX3_readBlock_4 : decode cX3_readBlock 4 = .ok (.iload_n 1, 1) := by decide +kernel
theorem dX3_readBlock_5 : decode cX3_readBlock 5 = .ok (.baload, 1) := by decide +kernel
theorem dX3_readBlock_6 : decode cX3_readBlock 6 = .ok (.ifCond .eq 27, 3) := by decide +kernel
theorem dX3_readBlock_9 : decode cX3_readBlock 9 = .ok (.aload_n 0, 1) := by decide +kernel
theorem dX3_readBlock_10 : decode cX3_readBlock 10 = .ok (.getfield 9, 3) := by decide +kernel
theorem dX3_readBlock_13 : decode cX3_readBlock 13 = .ok (.iload_n 1, 1) := by decide +kernel
theorem dX3_readBlock_14 : decode cX3_readBlock 14 = .ok (.iconst 0, 1) := by decide +kernel
theorem dX3_readBlock_15 : decode cX3_readBlock 15 = .ok (.iastore, 1) := by decide +kernel
theorem dX3_readBlock_16 : decode cX3_readBlock 16 = .ok (.aload_n 0, 1) := by decide +kernel
theorem dX3_readBlock_17 : decode cX3_readBlock 17 = .ok (.getfield 15, 3) := by decide +kernel
theorem dX3_readBlock_20 : decode cX3_readBlock 20 = .ok (.iload_n 1, 1) := by decide +kernel
theorem dX3_readBlock_21 : decode cX3_readBlock 21 = .ok (.iconst 0, 1) := by decide +kernel
theorem dX3_readBlock_22 : decode cX3_readBlock 22 = .ok (.iastore, 1) := by decide +kernel
theorem dX3_readBlock_23 : decode cX3_readBlock 23 = .ok (.aload_n 0, 1) := by decide +kernel
theorem dX3_readBlock_24 : decode cX3_readBlock 24 = .ok (.getfield 18, 3) := by decide +kernel
theorem dX3_readBlock_27 : decode cX3_readBlock 27 = .ok (.iload_n 1, 1) := by decide +kernel
theorem dX3_readBlock_28 : decode cX3_readBlock 28 = .ok (.iconst 0, 1) := by decide +kernel
theorem dX3_readBlock_29 : decode cX3_readBlock 29 = .ok (.iastore, 1) := by decide +kernel
theorem dX3_readBlock_30 : decode cX3_readBlock 30 = .ok (.goto 57, 3) := by decide +kernel
theorem dX3_readBlock_33 : decode cX3_readBlock 33 = .ok (.aload_n 2, 1) := by decide +kernel
theorem dX3_readBlock_34 : decode cX3_readBlock 34 = .ok (.getfield 59, 3) := by decide +kernel
theorem dX3_readBlock_37 : decode cX3_readBlock 37 = .ok (.iload_n 1, 1) := by decide +kernel
theorem dX3_readBlock_38 : decode cX3_readBlock 38 = .ok (.iaload, 1) := by decide +kernel
theorem dX3_readBlock_39 : decode cX3_readBlock 39 = .ok (.istore 4, 2) := by decide +kernel
theorem dX3_readBlock_41 : decode cX3_readBlock 41 = .ok (.aload_n 0, 1) := by decide +kernel
theorem dX3_readBlock_42 : decode cX3_readBlock 42 = .ok (.getfield 9, 3) := by decide +kernel
theorem dX3_readBlock_45 : decode cX3_readBlock 45 = .ok (.iload_n 1, 1) := by decide +kernel
theorem dX3_readBlock_46 : decode cX3_readBlock 46 = .ok (.aload_n 3, 1) := by decide +kernel
theorem dX3_readBlock_47 : decode cX3_readBlock 47 = .ok (.iload 4, 2) := by decide +kernel
theorem dX3_readBlock_49 : decode cX3_readBlock 49 = .ok (.invokevirtual 62, 3) := by decide +kernel
theorem dX3_readBlock_52 : decode cX3_readBlock 52 = .ok (.iastore, 1) := by decide +kernel
theorem dX3_readBlock_53 : decode cX3_readBlock 53 = .ok (.aload_n 0, 1) := by decide +kernel
theorem dX3_readBlock_54 : decode cX3_readBlock 54 = .ok (.getfield 15, 3) := by decide +kernel
theorem dX3_readBlock_57 : decode cX3_readBlock 57 = .ok (.iload_n 1, 1) := by decide +kernel
theorem dX3_readBlock_58 : decode cX3_readBlock 58 = .ok (.aload_n 3, 1) := by decide +kernel
theorem dX3_readBlock_59 : decode cX3_readBlock 59 = .ok (.iload 4, 2) := by decide +kernel
theorem dX3_readBlock_61 : decode cX3_readBlock 61 = .ok (.aload_n 0, 1) := by decide +kernel
theorem dX3_readBlock_62 : decode cX3_readBlock 62 = .ok (.getfield 9, 3) := by decide +kernel
theorem dX3_readBlock_65 : decode cX3_readBlock 65 = .ok (.iload_n 1, 1) := by decide +kernel
theorem dX3_readBlock_66 : decode cX3_readBlock 66 = .ok (.iaload, 1) := by decide +kernel
theorem dX3_readBlock_67 : decode cX3_readBlock 67 = .ok (.invokevirtual 67, 3) := by decide +kernel
theorem dX3_readBlock_70 : decode cX3_readBlock 70 = .ok (.iastore, 1) := by decide +kernel
theorem dX3_readBlock_71 : decode cX3_readBlock 71 = .ok (.aload_n 0, 1) := by decide +kernel
theorem dX3_readBlock_72 : decode cX3_readBlock 72 = .ok (.getfield 18, 3) := by decide +kernel
theorem dX3_readBlock_75 : decode cX3_readBlock 75 = .ok (.iload_n 1, 1) := by decide +kernel
theorem dX3_readBlock_76 : decode cX3_readBlock 76 = .ok (.aload_n 3, 1) := by decide +kernel
theorem dX3_readBlock_77 : decode cX3_readBlock 77 = .ok (.aload_n 0, 1) := by decide +kernel
theorem dX3_readBlock_78 : decode cX3_readBlock 78 = .ok (.getfield 15, 3) := by decide +kernel
theorem dX3_readBlock_81 : decode cX3_readBlock 81 = .ok (.iload_n 1, 1) := by decide +kernel
theorem dX3_readBlock_82 : decode cX3_readBlock 82 = .ok (.iaload, 1) := by decide +kernel
theorem dX3_readBlock_83 : decode cX3_readBlock 83 = .ok (.invokevirtual 71, 3) := by decide +kernel
theorem dX3_readBlock_86 : decode cX3_readBlock 86 = .ok (.iastore, 1) := by decide +kernel
theorem dX3_readBlock_87 : decode cX3_readBlock 87 = .ok (.return_, 1) := by decide +kernel
theorem dX3_blocksBefore_0 : decode cX3_blocksBefore 0 = .ok (.iconst 0, 1) := by decide +kernel
theorem dX3_blocksBefore_1 : decode cX3_blocksBefore 1 = .ok (.istore_n 2, 1) := by decide +kernel
theorem dX3_blocksBefore_2 : decode cX3_blocksBefore 2 = .ok (.iconst 0, 1) := by decide +kernel
theorem dX3_blocksBefore_3 : decode cX3_blocksBefore 3 = .ok (.istore_n 3, 1) := by decide +kernel
theorem dX3_blocksBefore_4 : decode cX3_blocksBefore 4 = .ok (.iload_n 3, 1) := by decide +kernel
theorem dX3_blocksBefore_5 : decode cX3_blocksBefore 5 = .ok (.aload_n 0, 1) := by decide +kernel
theorem dX3_blocksBefore_6 : decode cX3_blocksBefore 6 = .ok (.getfield 27, 3) := by decide +kernel
theorem dX3_blocksBefore_9 : decode cX3_blocksBefore 9 = .ok (.if_icmp .ge 47, 3) := by decide +kernel
theorem dX3_blocksBefore_12 : decode cX3_blocksBefore 12 = .ok (.aload_n 0, 1) := by decide +kernel
theorem dX3_blocksBefore_13 : decode cX3_blocksBefore 13 = .ok (.getfield 18, 3) := by decide +kernel
theorem dX3_blocksBefore_16 : decode cX3_blocksBefore 16 = .ok (.iload_n 3, 1) := by decide +kernel
theorem dX3_blocksBefore_17 : decode cX3_blocksBefore 17 = .ok (.iaload, 1) := by decide +kernel
theorem dX3_blocksBefore_18 : decode cX3_blocksBefore 18 = .ok (.aload_n 0, 1) := by decide +kernel
theorem dX3_blocksBefore_19 : decode cX3_blocksBefore 19 = .ok (.getfield 18, 3) := by decide +kernel
theorem dX3_blocksBefore_22 : decode cX3_blocksBefore 22 = .ok (.iload_n 1, 1) := by decide +kernel
theorem dX3_blocksBefore_23 : decode cX3_blocksBefore 23 = .ok (.iaload, 1) := by decide +kernel
theorem dX3_blocksBefore_24 : decode cX3_blocksBefore 24 = .ok (.if_icmp .lt 23, 3) := by decide +kernel
theorem dX3_blocksBefore_27 : decode cX3_blocksBefore 27 = .ok (.aload_n 0, 1) := by decide +kernel
theorem dX3_blocksBefore_28 : decode cX3_blocksBefore 28 = .ok (.getfield 18, 3) := by decide +kernel
theorem dX3_blocksBefore_31 : decode cX3_blocksBefore 31 = .ok (.iload_n 3, 1) := by decide +kernel
theorem dX3_blocksBefore_32 : decode cX3_blocksBefore 32 = .ok (.iaload, 1) := by decide +kernel
theorem dX3_blocksBefore_33 : decode cX3_blocksBefore 33 = .ok (.aload_n 0, 1) := by decide +kernel
theorem dX3_blocksBefore_34 : decode cX3_blocksBefore 34 = .ok (.getfield 18, 3) := by decide +kernel
theorem dX3_blocksBefore_37 : decode cX3_blocksBefore 37 = .ok (.iload_n 1, 1) := by decide +kernel
theorem dX3_blocksBefore_38 : decode cX3_blocksBefore 38 = .ok (.iaload, 1) := by decide +kernel
theorem dX3_blocksBefore_39 : decode cX3_blocksBefore 39 = .ok (.if_icmp .ne 11, 3) := by decide +kernel
theorem dX3_blocksBefore_42 : decode cX3_blocksBefore 42 = .ok (.iload_n 3, 1) := by decide +kernel
theorem dX3_blocksBefore_43 : decode cX3_blocksBefore 43 = .ok (.iload_n 1, 1) := by decide +kernel
theorem dX3_blocksBefore_44 : decode cX3_blocksBefore 44 = .ok (.if_icmp .ge 6, 3) := by decide +kernel
theorem dX3_blocksBefore_47 : decode cX3_blocksBefore 47 = .ok (.iinc 2 1, 3) := by decide +kernel
theorem dX3_blocksBefore_50 : decode cX3_blocksBefore 50 = .ok (.iinc 3 1, 3) := by decide +kernel
theorem dX3_blocksBefore_53 : decode cX3_blocksBefore 53 = .ok (.goto (-49), 3) := by decide +kernel
theorem dX3_blocksBefore_56 : decode cX3_blocksBefore 56 = .ok (.iload_n 2, 1) := by decide +kernel
theorem dX3_blocksBefore_57 : decode cX3_blocksBefore 57 = .ok (.ireturn, 1) := by decide +kernel
theorem dX3_keptBlocks_0 : decode cX3_keptBlocks 0 = .ok (.aload_n 0, 1) := by decide +kernel
theorem dX3_keptBlocks_1 : decode cX3_keptBlocks 1 = .ok (.getfield 35, 3) := by decide +kernel
theorem dX3_keptBlocks_4 : decode cX3_keptBlocks 4 = .ok (.lstore_n 2, 1) := by decide +kernel
theorem dX3_keptBlocks_5 : decode cX3_keptBlocks 5 = .ok (.iconst 0, 1) := by decide +kernel
theorem dX3_keptBlocks_6 : decode cX3_keptBlocks 6 = .ok (.istore 4, 2) := by decide +kernel
theorem dX3_keptBlocks_8 : decode cX3_keptBlocks 8 = .ok (.iload 4, 2) := by decide +kernel
theorem dX3_keptBlocks_10 : decode cX3_keptBlocks 10 = .ok (.iload_n 1, 1) := by decide +kernel
theorem dX3_keptBlocks_11 : decode cX3_keptBlocks 11 = .ok (.if_icmp .ge 36, 3) := by decide +kernel
theorem dX3_keptBlocks_14 : decode cX3_keptBlocks 14 = .ok (.iload 4, 2) := by decide +kernel
theorem dX3_keptBlocks_16 : decode cX3_keptBlocks 16 = .ok (.aload_n 0, 1) := by decide +kernel
theorem dX3_keptBlocks_17 : decode cX3_keptBlocks 17 = .ok (.getfield 27, 3) := by decide +kernel
theorem dX3_keptBlocks_20 : decode cX3_keptBlocks 20 = .ok (.if_icmp .ge 27, 3) := by decide +kernel
theorem dX3_keptBlocks_23 : decode cX3_keptBlocks 23 = .ok (.lload_n 2, 1) := by decide +kernel
theorem dX3_keptBlocks_24 : decode cX3_keptBlocks 24 = .ok (.lconst 1, 1) := by decide +kernel
theorem dX3_keptBlocks_25 : decode cX3_keptBlocks 25 = .ok (.iconst 4, 1) := by decide +kernel
theorem dX3_keptBlocks_26 : decode cX3_keptBlocks 26 = .ok (.aload_n 0, 1) := by decide +kernel
theorem dX3_keptBlocks_27 : decode cX3_keptBlocks 27 = .ok (.getfield 21, 3) := by decide +kernel
theorem dX3_keptBlocks_30 : decode cX3_keptBlocks 30 = .ok (.iload 4, 2) := by decide +kernel
theorem dX3_keptBlocks_32 : decode cX3_keptBlocks 32 = .ok (.iaload, 1) := by decide +kernel
theorem dX3_keptBlocks_33 : decode cX3_keptBlocks 33 = .ok (.imul, 1) := by decide +kernel
theorem dX3_keptBlocks_34 : decode cX3_keptBlocks 34 = .ok (.lshl, 1) := by decide +kernel
theorem dX3_keptBlocks_35 : decode cX3_keptBlocks 35 = .ok (.ldc2_w 74, 3) := by decide +kernel
theorem dX3_keptBlocks_38 : decode cX3_keptBlocks 38 = .ok (.lxor, 1) := by decide +kernel
theorem dX3_keptBlocks_39 : decode cX3_keptBlocks 39 = .ok (.land, 1) := by decide +kernel
theorem dX3_keptBlocks_40 : decode cX3_keptBlocks 40 = .ok (.lstore_n 2, 1) := by decide +kernel
theorem dX3_keptBlocks_41 : decode cX3_keptBlocks 41 = .ok (.iinc 4 1, 3) := by decide +kernel
theorem dX3_keptBlocks_44 : decode cX3_keptBlocks 44 = .ok (.goto (-36), 3) := by decide +kernel
theorem dX3_keptBlocks_47 : decode cX3_keptBlocks 47 = .ok (.lload_n 2, 1) := by decide +kernel
theorem dX3_keptBlocks_48 : decode cX3_keptBlocks 48 = .ok (.lreturn, 1) := by decide +kernel
set_option maxRecDepth 20000 in
theorem ggX3_differingBlocks_X2_markSymbols : GoodIn wsX3_differingBlocks wsX2_markSymbols := goodIn_r _ [5, 6] (by decide +kernel) (by decide +kernel)
set_option maxRecDepth 20000 in
theorem gX3_differingBlocks_X2_markSymbols_n76 : GoodIn wsX3_differingBlocks (wsX2_markSymbols) := ggX3_differingBlocks_X2_markSymbols
theorem dX3_differingBlocks_0 : decode cX3_differingBlocks 0 = .ok (.lload_n 1, 1) := by decide +kernel
theorem dX3_differingBlocks_1 : decode cX3_differingBlocks 1 = .ok (.aload_n 0, 1) := by decide +kernel
theorem dX3_differingBlocks_2 : decode cX3_differingBlocks 2 = .ok (.getfield 31, 3) := by decide +kernel
theorem dX3_differingBlocks_5 : decode cX3_differingBlocks 5 = .ok (.lxor, 1) := by decide +kernel
theorem dX3_differingBlocks_6 : decode cX3_differingBlocks 6 = .ok (.invokestatic 76, 3) := by decide +kernel
theorem dX3_differingBlocks_9 : decode cX3_differingBlocks 9 = .ok (.aload_n 0, 1) := by decide +kernel
theorem dX3_differingBlocks_10 : decode cX3_differingBlocks 10 = .ok (.getfield 35, 3) := by decide +kernel
theorem dX3_differingBlocks_13 : decode cX3_differingBlocks 13 = .ok (.land, 1) := by decide +kernel
theorem dX3_differingBlocks_14 : decode cX3_differingBlocks 14 = .ok (.lreturn, 1) := by decide +kernel
set_option maxRecDepth 20000 in
theorem ggX3_scoreOf_X3_differingBlocks : GoodIn wsX3_scoreOf wsX3_differingBlocks := goodIn_r _ [7, 8, 9, 10, 11, 12, 13, 14, 15, 16, 17, 18, 19, 20, 21] (by decide +kernel) (by decide +kernel)
set_option maxRecDepth 20000 in
theorem gX3_scoreOf_X3_differingBlocks : GoodIn wsX3_scoreOf (wsV RX3 80 RX3 yX3_differingBlocks wsX3_differingBlocks) := goodIn_app (goodIn_of _ (by decide +kernel)) ggX3_scoreOf_X3_differingBlocks
theorem dX3_scoreOf_0 : decode cX3_scoreOf 0 = .ok (.aload_n 0, 1) := by decide +kernel
theorem dX3_scoreOf_1 : decode cX3_scoreOf 1 = .ok (.lload_n 1, 1) := by decide +kernel
theorem dX3_scoreOf_2 : decode cX3_scoreOf 2 = .ok (.invokevirtual 80, 3) := by decide +kernel
theorem dX3_scoreOf_5 : decode cX3_scoreOf 5 = .ok (.lstore_n 3, 1) := by decide +kernel
theorem dX3_scoreOf_6 : decode cX3_scoreOf 6 = .ok (.iconst 0, 1) := by decide +kernel
theorem dX3_scoreOf_7 : decode cX3_scoreOf 7 = .ok (.istore 5, 2) := by decide +kernel
theorem dX3_scoreOf_9 : decode cX3_scoreOf 9 = .ok (.iconst 0, 1) := by decide +kernel
theorem dX3_scoreOf_10 : decode cX3_scoreOf 10 = .ok (.istore 6, 2) := by decide +kernel
theorem dX3_scoreOf_12 : decode cX3_scoreOf 12 = .ok (.iload 6, 2) := by decide +kernel
theorem dX3_scoreOf_14 : decode cX3_scoreOf 14 = .ok (.aload_n 0, 1) := by decide +kernel
theorem dX3_scoreOf_15 : decode cX3_scoreOf 15 = .ok (.getfield 27, 3) := by decide +kernel
theorem dX3_scoreOf_18 : decode cX3_scoreOf 18 = .ok (.if_icmp .ge 57, 3) := by decide +kernel
theorem dX3_scoreOf_21 : decode cX3_scoreOf 21 = .ok (.lload_n 3, 1) := by decide +kernel
theorem dX3_scoreOf_22 : decode cX3_scoreOf 22 = .ok (.iconst 4, 1) := by decide +kernel
theorem dX3_scoreOf_23 : decode cX3_scoreOf 23 = .ok (.iload 6, 2) := by decide +kernel
theorem dX3_scoreOf_25 : decode cX3_scoreOf 25 = .ok (.imul, 1) := by decide +kernel
theorem dX3_scoreOf_26 : decode cX3_scoreOf 26 = .ok (.lushr, 1) := by decide +kernel
theorem dX3_scoreOf_27 : decode cX3_scoreOf 27 = .ok (.lconst 1, 1) := by decide +kernel
theorem dX3_scoreOf_28 : decode cX3_scoreOf 28 = .ok (.land, 1) := by decide +kernel
theorem dX3_scoreOf_29 : decode cX3_scoreOf 29 = .ok (.lconst 1, 1) := by decide +kernel
theorem dX3_scoreOf_30 : decode cX3_scoreOf 30 = .ok (.lcmp, 1) := by decide +kernel
theorem dX3_scoreOf_31 : decode cX3_scoreOf 31 = .ok (.ifCond .ne 7, 3) := by decide +kernel
theorem dX3_scoreOf_34 : decode cX3_scoreOf 34 = .ok (.iconst 1, 1) := by decide +kernel
theorem dX3_scoreOf_35 : decode cX3_scoreOf 35 = .ok (.goto 4, 3) := by decide +kernel
theorem dX3_scoreOf_38 : decode cX3_scoreOf 38 = .ok (.iconst 0, 1) := by decide +kernel
theorem dX3_scoreOf_39 : decode cX3_scoreOf 39 = .ok (.istore 7, 2) := by decide +kernel
theorem dX3_scoreOf_41 : decode cX3_scoreOf 41 = .ok (.iload 5, 2) := by decide +kernel
theorem dX3_scoreOf_43 : decode cX3_scoreOf 43 = .ok (.iload 7, 2) := by decide +kernel
theorem dX3_scoreOf_45 : decode cX3_scoreOf 45 = .ok (.ifCond .eq 14, 3) := by decide +kernel
theorem dX3_scoreOf_48 : decode cX3_scoreOf 48 = .ok (.aload_n 0, 1) := by decide +kernel
theorem dX3_scoreOf_49 : decode cX3_scoreOf 49 = .ok (.getfield 18, 3) := by decide +kernel
theorem dX3_scoreOf_52 : decode cX3_scoreOf 52 = .ok (.iload 6, 2) := by decide +kernel
theorem dX3_scoreOf_54 : decode cX3_scoreOf 54 = .ok (.iaload, 1) := by decide +kernel
theorem dX3_scoreOf_55 : decode cX3_scoreOf 55 = .ok (.ineg, 1) := by decide +kernel
theorem dX3_scoreOf_56 : decode cX3_scoreOf 56 = .ok (.goto 10, 3) := by decide +kernel
theorem dX3_scoreOf_59 : decode cX3_scoreOf 59 = .ok (.aload_n 0, 1) := by decide +kernel
theorem dX3_scoreOf_60 : decode cX3_scoreOf 60 = .ok (.getfield 18, 3) := by decide +kernel
theorem dX3_scoreOf_63 : decode cX3_scoreOf 63 = .ok (.iload 6, 2) := by decide +kernel
theorem dX3_scoreOf_65 : decode cX3_scoreOf 65 = .ok (.iaload, 1) := by decide +kernel
theorem dX3_scoreOf_66 : decode cX3_scoreOf 66 = .ok (.iadd, 1) := by decide +kernel
theorem dX3_scoreOf_67 : decode cX3_scoreOf 67 = .ok (.istore 5, 2) := by decide +kernel
theorem dX3_scoreOf_69 : decode cX3_scoreOf 69 = .ok (.iinc 6 1, 3) := by decide +kernel
theorem dX3_scoreOf_72 : decode cX3_scoreOf 72 = .ok (.goto (-60), 3) := by decide +kernel
theorem dX3_scoreOf_75 : decode cX3_scoreOf 75 = .ok (.iload 5, 2) := by decide +kernel
theorem dX3_scoreOf_77 : decode cX3_scoreOf 77 = .ok (.ireturn, 1) := by decide +kernel
theorem dX4_init_0 : decode cX4_init 0 = .ok (.aload_n 0, 1) := by decide +kernel
theorem dX4_init_1 : decode cX4_init 1 = .ok (.invokespecial 3, 3) := by decide +kernel
theorem dX4_init_4 : decode cX4_init 4 = .ok (.aload_n 0, 1) := by decide +kernel
theorem dX4_init_5 : decode cX4_init 5 = .ok (.bipush 8, 2) := by decide +kernel
theorem dX4_init_7 : decode cX4_init 7 = .ok (.putfield 9, 3) := by decide +kernel
theorem dX4_init_10 : decode cX4_init 10 = .ok (.aload_n 0, 1) := by decide +kernel
theorem dX4_init_11 : decode cX4_init 11 = .ok (.iconst 3, 1) := by decide +kernel
theorem dX4_init_12 : decode cX4_init 12 = .ok (.putfield 15, 3) := by decide +kernel
theorem dX4_init_15 : decode cX4_init 15 = .ok (.aload_n 0, 1) := by decide +kernel
theorem dX4_init_16 : decode cX4_init 16 = .ok (.bipush 7, 2) := by decide +kernel
theorem dX4_init_18 : decode cX4_init 18 = .ok (.putfield 18, 3) := by decide +kernel
theorem dX4_init_21 : decode cX4_init 21 = .ok (.aload_n 0, 1) := by decide +kernel
theorem dX4_init_22 : decode cX4_init 22 = .ok (.iconst 4, 1) := by decide +kernel
theorem dX4_init_23 : decode cX4_init 23 = .ok (.newarray .int, 2) := by decide +kernel
theorem dX4_init_25 : decode cX4_init 25 = .ok (.putfield 21, 3) := by decide +kernel
theorem dX4_init_28 : decode cX4_init 28 = .ok (.aload_n 0, 1) := by decide +kernel
theorem dX4_init_29 : decode cX4_init 29 = .ok (.getfield 21, 3) := by decide +kernel
theorem dX4_init_32 : decode cX4_init 32 = .ok (.iconst 0, 1) := by decide +kernel
theorem dX4_init_33 : decode cX4_init 33 = .ok (.bipush 49, 2) := by decide +kernel
theorem dX4_init_35 : decode cX4_init 35 = .ok (.iastore, 1) := by decide +kernel
theorem dX4_init_36 : decode cX4_init 36 = .ok (.aload_n 0, 1) := by decide +kernel
theorem dX4_init_37 : decode cX4_init 37 = .ok (.getfield 21, 3) := by decide +kernel
theorem dX4_init_40 : decode cX4_init 40 = .ok (.iconst 1, 1) := by decide +kernel
theorem dX4_init_41 : decode cX4_init 41 = .ok (.bipush 82, 2) := by decide +kernel
theorem dX4_init_43 : decode cX4_init 43 = .ok (.iastore, 1) := by decide +kernel
theorem dX4_init_44 : decode cX4_init 44 = .ok (.aload_n 0, 1) := by decide +kernel
theorem dX4_init_45 : decode cX4_init 45 = .ok (.getfield 21, 3) := by decide +kernel
theorem dX4_init_48 : decode cX4_init 48 = .ok (.iconst 2, 1) := by decide +kernel
theorem dX4_init_49 : decode cX4_init 49 = .ok (.bipush 100, 2) := by decide +kernel
theorem dX4_init_51 : decode cX4_init 51 = .ok (.iastore, 1) := by decide +kernel
theorem dX4_init_52 : decode cX4_init 52 = .ok (.aload_n 0, 1) := by decide +kernel
theorem dX4_init_53 : decode cX4_init 53 = .ok (.getfield 21, 3) := by decide +kernel
theorem dX4_init_56 : decode cX4_init 56 = .ok (.iconst 3, 1) := by decide +kernel
theorem dX4_init_57 : decode cX4_init 57 = .ok (.bipush 120, 2) := by decide +kernel
theorem dX4_init_59 : decode cX4_init 59 = .ok (.iastore, 1) := by decide +kernel
theorem dX4_init_60 : decode cX4_init 60 = .ok (.aload_n 0, 1) := by decide +kernel
theorem dX4_init_61 : decode cX4_init 61 = .ok (.bipush 12, 2) := by decide +kernel
theorem dX4_init_63 : decode cX4_init 63 = .ok (.newarray .int, 2) := by decide +kernel
theorem dX4_init_65 : decode cX4_init 65 = .ok (.putfield 25, 3) := by decide +kernel
theorem dX4_init_68 : decode cX4_init 68 = .ok (.aload_n 0, 1) := by decide +kernel
theorem dX4_init_69 : decode cX4_init 69 = .ok (.bipush 12, 2) := by decide +kernel
theorem dX4_init_71 : decode cX4_init 71 = .ok (.newarray .boolean, 2) := by decide +kernel
theorem dX4_init_73 : decode cX4_init 73 = .ok (.putfield 28, 3) := by decide +kernel
theorem dX4_init_76 : decode cX4_init 76 = .ok (.aload_n 0, 1) := by decide +kernel
theorem dX4_init_77 : decode cX4_init 77 = .ok (.iconst 0, 1) := by decide +kernel
theorem dX4_init_78 : decode cX4_init 78 = .ok (.putfield 32, 3) := by decide +kernel
theorem dX4_init_81 : decode cX4_init 81 = .ok (.return_, 1) := by decide +kernel
theorem dX4_copyFrom_0 : decode cX4_copyFrom 0 = .ok (.aload_n 0, 1) := by decide +kernel
theorem dX4_copyFrom_1 : decode cX4_copyFrom 1 = .ok (.aload_n 1, 1) := by decide +kernel
theorem dX4_copyFrom_2 : decode cX4_copyFrom 2 = .ok (.getfield 9, 3) := by decide +kernel
theorem dX4_copyFrom_5 : decode cX4_copyFrom 5 = .ok (.putfield 9, 3) := by decide +kernel
theorem dX4_copyFrom_8 : decode cX4_copyFrom 8 = .ok (.aload_n 0, 1) := by decide +kernel
theorem dX4_copyFrom_9 : decode cX4_copyFrom 9 = .ok (.aload_n 1, 1) := by decide +kernel
theorem dX4_copyFrom_10 : decode cX4_copyFrom 10 = .ok (.getfield 15, 3) := by decide +kernel
theorem dX4_copyFrom_13 : decode cX4_copyFrom 13 = .ok (.putfield 15, 3) := by decide +kernel
theorem dX4_copyFrom_16 : decode cX4_copyFrom 16 = .ok (.aload_n 0, 1) := by decide +kernel
theorem dX4_copyFrom_17 : decode cX4_copyFrom 17 = .ok (.aload_n 1, 1) := by decide +kernel
theorem dX4_copyFrom_18 : decode cX4_copyFrom 18 = .ok (.getfield 18, 3) := by decide +kernel
theorem dX4_copyFrom_21 : decode cX4_copyFrom 21 = .ok (.putfield 18, 3) := by decide +kernel
theorem dX4_copyFrom_24 : decode cX4_copyFrom 24 = .ok (.aload_n 0, 1) := by decide +kernel
theorem dX4_copyFrom_25 : decode cX4_copyFrom 25 = .ok (.aload_n 1, 1) := by decide +kernel
theorem dX4_copyFrom_26 : decode cX4_copyFrom 26 = .ok (.getfield 32, 3) := by decide +kernel
theorem dX4_copyFrom_29 : decode cX4_copyFrom 29 = .ok (.putfield 32, 3) := by decide +kernel
theorem dX4_copyFrom_32 : decode cX4_copyFrom 32 = .ok (.iconst 0, 1) := by decide +kernel
theorem dX4_copyFrom_33 : decode cX4_copyFrom 33 = .ok (.istore_n 2, 1) := by decide +kernel
theorem dX4_copyFrom_34 : decode cX4_copyFrom 34 = .ok (.iload_n 2, 1) := by decide +kernel
theorem dX4_copyFrom_35 : decode cX4_copyFrom 35 = .ok (.iconst 4, 1) := by decide +kernel
theorem dX4_copyFrom_36 : decode cX4_copyFrom 36 = .ok (.if_icmp .ge 21, 3) := by decide +kernel
theorem dX4_copyFrom_39 : decode cX4_copyFrom 39 = .ok (.aload_n 0, 1) := by decide +kernel
theorem dX4_copyFrom_40 : decode cX4_copyFrom 40 = .ok (.getfield 21, 3) := by decide +kernel
theorem dX4_copyFrom_43 : decode cX4_copyFrom 43 = .ok (.iload_n 2, 1) := by decide +kernel
theorem dX4_copyFrom_44 : decode cX4_copyFrom 44 = .ok (.aload_n 1, 1) := by decide +kernel
theorem dX4_copyFrom_45 : decode cX4_copyFrom 45 = .ok (.getfield 21, 3) := by decide +kernel
theorem dX4_copyFrom_48 : decode cX4_copyFrom 48 = .ok (.iload_n 2, 1) := by decide +kernel
theorem dX4_copyFrom_49 : decode cX4_copyFrom 49 = .ok (.iaload, 1) := by decide +kernel
theorem dX4_copyFrom_50 : decode cX4_copyFrom 50 = .ok (.iastore, 1) := by decide +kernel
theorem dX4_copyFrom_51 : decode cX4_copyFrom 51 = .ok (.iinc 2 1, 3) := by decide +kernel
theorem dX4_copyFrom_54 : decode cX4_copyFrom 54 = .ok (.goto (-20), 3) := by decide +kernel
theorem dX4_copyFrom_57 : decode cX4_copyFrom 57 = .ok (.iconst 0, 1) := by decide +kernel
theorem dX4_copyFrom_58 : decode cX4_copyFrom 58 = .ok (.istore_n 2, 1) := by decide +kernel
theorem dX4_copyFrom_59 : decode cX4_copyFrom 59 = .ok (.iload_n 2, 1) := by decide +kernel
theorem dX4_copyFrom_60 : decode cX4_copyFrom 60 = .ok (.bipush 12, 2) := by decide +kernel
theorem dX4_copyFrom_62 : decode cX4_copyFrom 62 = .ok (.if_icmp .ge 33, 3) := by decide +kernel
theorem dX4_copyFrom_65 : decode cX4_copyFrom 65 = .ok (.aload_n 0, 1) := by decide +kernel
theorem dX4_copyFrom_66 : decode cX4_copyFrom 66 = .ok (.getfield 25, 3) := by decide +kernel
theorem dX4_copyFrom_69 : decode cX4_copyFrom 69 = .ok (.iload_n 2, 1) := by decide +kernel
theorem dX4_copyFrom_70 : decode cX4_copyFrom 70 = .ok (.aload_n 1, 1) := by decide +kernel
theorem dX4_copyFrom_71 : decode cX4_copyFrom 71 = .ok (.getfield 25, 3) := by decide +kernel
theorem dX4_copyFrom_74 : decode cX4_copyFrom 74 = .ok (.iload_n 2, 1) := by decide +kernel
theorem dX4_copyFrom_75 : decode cX4_copyFrom 75 = .ok (.iaload, 1) := by decide +kernel
theorem dX4_copyFrom_76 : decode cX4_copyFrom 76 = .ok (.iastore, 1) := by decide +kernel
theorem dX4_copyFrom_77 : decode cX4_copyFrom 77 = .ok (.aload_n 0, 1) := by decide +kernel
theorem dX4_copyFrom_78 : decode cX4_copyFrom 78 = .ok (.getfield 28, 3) := by decide +kernel
theorem dX4_copyFrom_81 : decode cX4_copyFrom 81 = .ok (.iload_n 2, 1) := by decide +kernel
theorem dX4_copyFrom_82 : decode cX4_copyFrom 82 = .ok (.aload_n 1, 1) := by decide +kernel
theorem dX4_copyFrom_83 : decode cX4_copyFrom 83 = .ok (.getfield 28, 3) := by decide +kernel
theorem dX4_copyFrom_86 : decode cX4_copyFrom 86 = .ok (.iload_n 2, 1) := by decide +kernel
theorem dX4_copyFrom_87 : decode cX4_copyFrom 87 = .ok (.baload, 1) := by decide +kernel
theorem dX4_copyFrom_88 : decode cX4_copyFrom 88 = .ok (.bastore, 1) := by decide +kernel
theorem dX4_copyFrom_89 : decode cX4_copyFrom 89 = .ok (.iinc 2 1, 3) := by decide +kernel
theorem dX4_copyFrom_92 : decode cX4_copyFrom 92 = .ok (.goto (-33), 3) := by decide +kernel
theorem dX4_copyFrom_95 : decode cX4_copyFrom 95 = .ok (.return_, 1) := by decide +kernel
theorem dX4_clearBlocks_0 : decode cX4_clearBlocks 0 = .ok (.aload_n 0, 1) := by decide +kernel
theorem dX4_clearBlocks_1 : decode cX4_clearBlocks 1 = .ok (.iconst 0, 1) := by decide +kernel
theorem dX4_clearBlocks_2 : decode cX4_clearBlocks 2 = .ok (.putfield 32, 3) := by decide +kernel
theorem dX4_clearBlocks_5 : decode cX4_clearBlocks 5 = .ok (.iconst 0, 1) := by decide +kernel
theorem dX4_clearBlocks_6 : decode cX4_clearBlocks 6 = .ok (.istore_n 1, 1) := by decide +kernel
theorem dX4_clearBlocks_7 : decode cX4_clearBlocks 7 = .ok (.iload_n 1, 1) := by decide +kernel
theorem dX4_clearBlocks_8 : decode cX4_clearBlocks 8 = .ok (.bipush 12, 2) := by decide +kernel
theorem dX4_clearBlocks_10 : decode cX4_clearBlocks 10 = .ok (.if_icmp .ge 23, 3) := by decide +kernel
theorem dX4_clearBlocks_13 : decode cX4_clearBlocks 13 = .ok (.aload_n 0, 1) := by decide +kernel
theorem dX4_clearBlocks_14 : decode cX4_clearBlocks 14 = .ok (.getfield 25, 3) := by decide +kernel
theorem dX4_clearBlocks_17 : decode cX4_clearBlocks 17 = .ok (.iload_n 1, 1) := by decide +kernel
theorem dX4_clearBlocks_18 : decode cX4_clearBlocks 18 = .ok (.iconst 0, 1) := by decide +kernel
theorem dX4_clearBlocks_19 : decode cX4_clearBlocks 19 = .ok (.iastore, 1) := by decide +kernel
theorem dX4_clearBlocks_20 : decode cX4_clearBlocks 20 = .ok (.aload_n 0, 1) := by decide +kernel
theorem dX4_clearBlocks_21 : decode cX4_clearBlocks 21 = .ok (.getfield 28, 3) := by decide +kernel
theorem dX4_clearBlocks_24 : decode cX4_clearBlocks 24 = .ok (.iload_n 1, 1) := by decide +kernel
theorem dX4_clearBlocks_25 : decode cX4_clearBlocks 25 = .ok (.iconst 0, 1) := by decide +kernel
theorem dX4_clearBlocks_26 : decode cX4_clearBlocks 26 = .ok (.bastore, 1) := by decide +kernel
theorem dX4_clearBlocks_27 : decode cX4_clearBlocks 27 = .ok (.iinc 1 1, 3) := by decide +kernel
theorem dX4_clearBlocks_30 : decode cX4_clearBlocks 30 = .ok (.goto (-23), 3) := by decide +kernel
theorem dX4_clearBlocks_33 : decode cX4_clearBlocks 33 = .ok (.return_, 1) := by decide +kernel
theorem dX4_outerDistance_0 : decode cX4_outerDistance 0 = .ok (.aload_n 0, 1) := by decide +kernel
theorem dX4_outerDistance_1 : decode cX4_outerDistance 1 = .ok (.getfield 9, 3) := by decide +kernel
theorem dX4_outerDistance_4 : decode cX4_outerDistance 4 = .ok (.aload_n 0, 1) := by decide +kernel
theorem dX4_outerDistance_5 : decode cX4_outerDistance 5 = .ok (.getfield 15, 3) := by decide +kernel
theorem dX4_outerDistance_8 : decode cX4_outerDistance 8 = .ok (.isub, 1) := by decide +kernel
theorem dX4_outerDistance_9 : decode cX4_outerDistance 9 = .ok (.iconst 1, 1) := by decide +kernel
theorem dX4_outerDistance_10 : decode cX4_outerDistance 10 = .ok (.iadd, 1) := by decide +kernel
theorem dX4_outerDistance_11 : decode cX4_outerDistance 11 = .ok (.ireturn, 1) := by decide +kernel
theorem dX4_messages_0 : decode cX4_messages 0 = .ok (.iconst 1, 1) := by decide +kernel
theorem dX4_messages_1 : decode cX4_messages 1 = .ok (.iconst 4, 1) := by decide +kernel
theorem dX4_messages_2 : decode cX4_messages 2 = .ok (.aload_n 0, 1) := by decide +kernel
theorem dX4_messages_3 : decode cX4_messages 3 = .ok (.getfield 15, 3) := by decide +kernel
theorem dX4_messages_6 : decode cX4_messages 6 = .ok (.imul, 1) := by decide +kernel
theorem dX4_messages_7 : decode cX4_messages 7 = .ok (.ishl, 1) := by decide +kernel
theorem dX4_messages_8 : decode cX4_messages 8 = .ok (.ireturn, 1) := by decide +kernel
theorem dX4_allBits_0 : decode cX4_allBits 0 = .ok (.iconst 1, 1) := by decide +kernel
theorem dX4_allBits_1 : decode cX4_allBits 1 = .ok (.aload_n 0, 1) := by decide +kernel
theorem dX4_allBits_2 : decode cX4_allBits 2 = .ok (.getfield 18, 3) := by decide +kernel
theorem dX4_allBits_5 : decode cX4_allBits 5 = .ok (.ishl, 1) := by decide +kernel
theorem dX4_allBits_6 : decode cX4_allBits 6 = .ok (.iconst 1, 1) := by decide +kernel
theorem dX4_allBits_7 : decode cX4_allBits 7 = .ok (.isub, 1) := by decide +kernel
theorem dX4_allBits_8 : decode cX4_allBits 8 = .ok (.ireturn, 1) := by decide +kernel
set_option maxRecDepth 20000 in
theorem ggX4_shiftedRound_X4_allBits : GoodIn wsX4_shiftedRound wsX4_allBits := goodIn_r _ [6, 1, 7, 8, 9, 10, 11, 12, 13] (by decide +kernel) (by decide +kernel)
set_option maxRecDepth 20000 in
theorem gX4_shiftedRound_X4_allBits : GoodIn wsX4_shiftedRound (wsV RX4 35 RX4 yX4_allBits wsX4_allBits) := goodIn_app (goodIn_of _ (by decide +kernel)) ggX4_shiftedRound_X4_allBits
theorem dX4_shiftedRound_0 : decode cX4_shiftedRound 0 = .ok (.iload_n 1, 1) := by decide +kernel
theorem dX4_shiftedRound_1 : decode cX4_shiftedRound 1 = .ok (.iconst 1, 1) := by decide +kernel
theorem dX4_shiftedRound_2 : decode cX4_shiftedRound 2 = .ok (.ishl, 1) := by decide +kernel
theorem dX4_shiftedRound_3 : decode cX4_shiftedRound 3 = .ok (.iload_n 1, 1) := by decide +kernel
theorem dX4_shiftedRound_4 : decode cX4_shiftedRound 4 = .ok (.aload_n 0, 1) := by decide +kernel
theorem dX4_shiftedRound_5 : decode cX4_shiftedRound 5 = .ok (.getfield 18, 3) := by decide +kernel
theorem dX4_shiftedRound_8 : decode cX4_shiftedRound 8 = .ok (.iconst 1, 1) := by decide +kernel
theorem dX4_shiftedRound_9 : decode cX4_shiftedRound 9 = .ok (.isub, 1) := by decide +kernel
theorem dX4_shiftedRound_10 : decode cX4_shiftedRound 10 = .ok (.ishr, 1) := by decide +kernel
theorem dX4_shiftedRound_11 : decode cX4_shiftedRound 11 = .ok (.ior, 1) := by decide +kernel
theorem dX4_shiftedRound_12 : decode cX4_shiftedRound 12 = .ok (.aload_n 0, 1) := by decide +kernel
theorem dX4_shiftedRound_13 : decode cX4_shiftedRound 13 = .ok (.invokevirtual 35, 3) := by decide +kernel
theorem dX4_shiftedRound_16 : decode cX4_shiftedRound 16 = .ok (.iand, 1) := by decide +kernel
theorem dX4_shiftedRound_17 : decode cX4_shiftedRound 17 = .ok (.ireturn, 1) := by decide +kernel
