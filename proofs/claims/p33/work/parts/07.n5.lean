set_option maxRecDepth 20000 in
theorem ggX5_init_X4_init : GoodIn wsX5_init wsX4_init := goodIn_r _ [28, 29, 2, 3, 30, 31, 32, 24, 33, 34, 35, 36, 37, 115, 116, 117, 118, 119, 120, 121] (by decide +kernel) (by decide +kernel)
set_option maxRecDepth 20000 in
theorem gX5_init_X4_init_n9 : GoodIn wsX5_init (wsX4_init) := ggX5_init_X4_init
set_option maxRecDepth 20000 in
theorem ggX5_init_X0_init : GoodIn wsX5_init wsX0_init := goodIn_r _ [39, 40, 2, 3, 41, 42, 5, 6, 43, 27, 28, 29, 30, 31, 32, 24, 33, 34, 35, 36, 37, 129, 130, 115, 116, 117, 118, 119, 120, 121] (by decide +kernel) (by decide +kernel)
set_option maxRecDepth 20000 in
theorem gX5_init_X0_init_n18 : GoodIn wsX5_init (wsX0_init) := ggX5_init_X0_init
set_option maxRecDepth 20000 in
theorem ggX5_init_X1_init : GoodIn wsX5_init wsX1_init := goodIn_r _ [45, 46, 2, 3, 24, 47, 48, 131, 132] (by decide +kernel) (by decide +kernel)
set_option maxRecDepth 20000 in
theorem gX5_init_X1_init_n25 : GoodIn wsX5_init (wsX1_init) := ggX5_init_X1_init
set_option maxRecDepth 20000 in
theorem ggX5_init_X2_init : GoodIn wsX5_init wsX2_init := goodIn_r _ [50, 51, 2, 3, 52, 53, 54, 55, 56, 133] (by decide +kernel) (by decide +kernel)
set_option maxRecDepth 20000 in
theorem gX5_init_X2_init_n32 : GoodIn wsX5_init (wsX2_init) := ggX5_init_X2_init
set_option maxRecDepth 20000 in
theorem ggX5_init_X3_init : GoodIn wsX5_init wsX3_init := goodIn_r _ [58, 59, 2, 3, 24, 60, 61, 62, 63, 64, 65, 66, 67, 134, 135, 136, 137, 138, 139, 140, 141] (by decide +kernel) (by decide +kernel)
set_option maxRecDepth 20000 in
theorem gX5_init_X3_init_n39 : GoodIn wsX5_init (wsX3_init) := ggX5_init_X3_init
set_option maxRecDepth 20000 in
theorem ggX5_init_X5_readAgain : GoodIn wsX5_init wsX5_readAgain := goodIn_r _ [71, 15, 7, 23, 72, 14, 73, 74, 48, 47, 75, 76, 77, 78, 79, 55, 80, 81, 82, 83, 84, 85, 86, 87, 88, 22, 89, 90, 65, 67, 66, 60, 64, 63, 91, 18, 92, 93, 94, 95, 96, 97, 61, 62, 98, 99, 100, 101, 102, 103, 104, 105, 106, 107, 108, 109, 110, 111, 112, 113, 114, 122, 123, 124, 125, 126, 127, 128, 115, 116, 117, 118, 119, 120, 121, 131, 132, 134, 135, 136, 137, 138, 139, 140, 141] (by decide +kernel) (by decide +kernel)
set_option maxRecDepth 20000 in
theorem gX5_init_X5_readAgain : GoodIn wsX5_init (wsV RX5 52 RX5 yX5_readAgain wsX5_readAgain) := goodIn_app (goodIn_of _ (by decide +kernel)) ggX5_init_X5_readAgain
theorem dX5_init_0 : decode cX5_init 0 = .ok (.aload_n 0, 1) := by decide +kernel
theorem dX5_init_1 : decode cX5_init 1 = .ok (.invokespecial 1, 3) := by decide +kernel
theorem dX5_init_4 : decode cX5_init 4 = .ok (.aload_n 0, 1) := by decide +kernel
theorem dX5_init_5 : decode cX5_init 5 = .ok (.new 7, 3) := by decide +kernel
theorem dX5_init_8 : decode cX5_init 8 = .ok (.dup, 1) := by decide +kernel
theorem dX5_init_9 : decode cX5_init 9 = .ok (.invokespecial 9, 3) := by decide +kernel
theorem dX5_init_12 : decode cX5_init 12 = .ok (.putfield 10, 3) := by decide +kernel
theorem dX5_init_15 : decode cX5_init 15 = .ok (.aload_n 0, 1) := by decide +kernel
theorem dX5_init_16 : decode cX5_init 16 = .ok (.new 16, 3) := by decide +kernel
theorem dX5_init_19 : decode cX5_init 19 = .ok (.dup, 1) := by decide +kernel
theorem dX5_init_20 : decode cX5_init 20 = .ok (.invokespecial 18, 3) := by decide +kernel
theorem dX5_init_23 : decode cX5_init 23 = .ok (.putfield 19, 3) := by decide +kernel
theorem dX5_init_26 : decode cX5_init 26 = .ok (.aload_n 0, 1) := by decide +kernel
theorem dX5_init_27 : decode cX5_init 27 = .ok (.new 23, 3) := by decide +kernel
theorem dX5_init_30 : decode cX5_init 30 = .ok (.dup, 1) := by decide +kernel
theorem dX5_init_31 : decode cX5_init 31 = .ok (.invokespecial 25, 3) := by decide +kernel
theorem dX5_init_34 : decode cX5_init 34 = .ok (.putfield 26, 3) := by decide +kernel
theorem dX5_init_37 : decode cX5_init 37 = .ok (.aload_n 0, 1) := by decide +kernel
theorem dX5_init_38 : decode cX5_init 38 = .ok (.new 30, 3) := by decide +kernel
theorem dX5_init_41 : decode cX5_init 41 = .ok (.dup, 1) := by decide +kernel
theorem dX5_init_42 : decode cX5_init 42 = .ok (.invokespecial 32, 3) := by decide +kernel
theorem dX5_init_45 : decode cX5_init 45 = .ok (.putfield 33, 3) := by decide +kernel
theorem dX5_init_48 : decode cX5_init 48 = .ok (.aload_n 0, 1) := by decide +kernel
theorem dX5_init_49 : decode cX5_init 49 = .ok (.new 37, 3) := by decide +kernel
theorem dX5_init_52 : decode cX5_init 52 = .ok (.dup, 1) := by decide +kernel
theorem dX5_init_53 : decode cX5_init 53 = .ok (.invokespecial 39, 3) := by decide +kernel
theorem dX5_init_56 : decode cX5_init 56 = .ok (.putfield 40, 3) := by decide +kernel
theorem dX5_init_59 : decode cX5_init 59 = .ok (.aload_n 0, 1) := by decide +kernel
theorem dX5_init_60 : decode cX5_init 60 = .ok (.iconst 4, 1) := by decide +kernel
theorem dX5_init_61 : decode cX5_init 61 = .ok (.newarray .int, 2) := by decide +kernel
theorem dX5_init_63 : decode cX5_init 63 = .ok (.putfield 44, 3) := by decide +kernel
theorem dX5_init_66 : decode cX5_init 66 = .ok (.aload_n 0, 1) := by decide +kernel
theorem dX5_init_67 : decode cX5_init 67 = .ok (.iconst 0, 1) := by decide +kernel
theorem dX5_init_68 : decode cX5_init 68 = .ok (.putfield 48, 3) := by decide +kernel
theorem dX5_init_71 : decode cX5_init 71 = .ok (.aload_n 0, 1) := by decide +kernel
theorem dX5_init_72 : decode cX5_init 72 = .ok (.invokevirtual 52, 3) := by decide +kernel
theorem dX5_init_75 : decode cX5_init 75 = .ok (.return_, 1) := by decide +kernel
set_option maxRecDepth 20000 in
theorem ggX5_setOuter_X0_record : GoodIn wsX5_setOuter wsX0_record := goodIn_r _ [6, 7, 8, 9, 10, 11, 4, 12, 13, 14, 15, 16, 17, 18, 19, 20, 21, 22, 23, 104, 105, 97, 98, 99, 100, 101, 102, 103] (by decide +kernel) (by decide +kernel)
set_option maxRecDepth 20000 in
theorem gX5_setOuter_X0_record_n61 : GoodIn wsX5_setOuter (wsX0_record) := ggX5_setOuter_X0_record
set_option maxRecDepth 20000 in
theorem ggX5_setOuter_X4_clearBlocks : GoodIn wsX5_setOuter wsX4_clearBlocks := goodIn_r _ [26, 20, 22, 23, 97, 98, 99, 100, 101, 102, 103] (by decide +kernel) (by decide +kernel)
set_option maxRecDepth 20000 in
theorem gX5_setOuter_X4_clearBlocks_n65 : GoodIn wsX5_setOuter (wsX4_clearBlocks) := ggX5_setOuter_X4_clearBlocks
set_option maxRecDepth 20000 in
theorem ggX5_setOuter_X5_readAgain : GoodIn wsX5_setOuter wsX5_readAgain := goodIn_r _ [31, 32, 1, 33, 34, 35, 36, 37, 38, 39, 40, 41, 42, 43, 44, 30, 45, 46, 47, 48, 49, 50, 51, 52, 53, 54, 55, 56, 57, 58, 59, 60, 61, 62, 63, 64, 65, 66, 67, 68, 69, 70, 71, 72, 73, 74, 75, 76, 77, 78, 79, 80, 81, 82, 83, 84, 85, 86, 87, 88, 89, 90, 91, 92, 93, 94, 95, 96, 97, 98, 99, 100, 101, 102, 103, 106, 107, 108, 109, 110, 111, 112, 113, 114, 115] (by decide +kernel) (by decide +kernel)
set_option maxRecDepth 20000 in
theorem gX5_setOuter_X5_readAgain : GoodIn wsX5_setOuter (wsV RX5 52 RX5 yX5_readAgain wsX5_readAgain) := goodIn_app (goodIn_of _ (by decide +kernel)) ggX5_setOuter_X5_readAgain
theorem dX5_setOuter_0 : decode cX5_setOuter 0 = .ok (.iload_n 1, 1) := by decide +kernel
theorem dX5_setOuter_1 : decode cX5_setOuter 1 = .ok (.iconst 3, 1) := by decide +kernel
theorem dX5_setOuter_2 : decode cX5_setOuter 2 = .ok (.if_icmp .lt 9, 3) := by decide +kernel
theorem dX5_setOuter_5 : decode cX5_setOuter 5 = .ok (.iload_n 1, 1) := by decide +kernel
theorem dX5_setOuter_6 : decode cX5_setOuter 6 = .ok (.bipush 12, 2) := by decide +kernel
theorem dX5_setOuter_8 : decode cX5_setOuter 8 = .ok (.if_icmp .le 7, 3) := by decide +kernel
theorem dX5_setOuter_11 : decode cX5_setOuter 11 = .ok (.sipush (-1001), 3) := by decide +kernel
theorem dX5_setOuter_14 : decode cX5_setOuter 14 = .ok (.ireturn, 1) := by decide +kernel
theorem dX5_setOuter_15 : decode cX5_setOuter 15 = .ok (.iload_n 2, 1) := by decide +kernel
theorem dX5_setOuter_16 : decode cX5_setOuter 16 = .ok (.iconst 1, 1) := by decide +kernel
theorem dX5_setOuter_17 : decode cX5_setOuter 17 = .ok (.if_icmp .lt 13, 3) := by decide +kernel
theorem dX5_setOuter_20 : decode cX5_setOuter 20 = .ok (.iload_n 2, 1) := by decide +kernel
theorem dX5_setOuter_21 : decode cX5_setOuter 21 = .ok (.iconst 3, 1) := by decide +kernel
theorem dX5_setOuter_22 : decode cX5_setOuter 22 = .ok (.if_icmp .gt 8, 3) := by decide +kernel
theorem dX5_setOuter_25 : decode cX5_setOuter 25 = .ok (.iload_n 2, 1) := by decide +kernel
theorem dX5_setOuter_26 : decode cX5_setOuter 26 = .ok (.iload_n 1, 1) := by decide +kernel
theorem dX5_setOuter_27 : decode cX5_setOuter 27 = .ok (.if_icmp .lt 7, 3) := by decide +kernel
theorem dX5_setOuter_30 : decode cX5_setOuter 30 = .ok (.sipush (-1001), 3) := by decide +kernel
theorem dX5_setOuter_33 : decode cX5_setOuter 33 = .ok (.ireturn, 1) := by decide +kernel
theorem dX5_setOuter_34 : decode cX5_setOuter 34 = .ok (.bipush 10, 2) := by decide +kernel
theorem dX5_setOuter_36 : decode cX5_setOuter 36 = .ok (.aload_n 0, 1) := by decide +kernel
theorem dX5_setOuter_37 : decode cX5_setOuter 37 = .ok (.getfield 10, 3) := by decide +kernel
theorem dX5_setOuter_40 : decode cX5_setOuter 40 = .ok (.getfield 55, 3) := by decide +kernel
theorem dX5_setOuter_43 : decode cX5_setOuter 43 = .ok (.imul, 1) := by decide +kernel
theorem dX5_setOuter_44 : decode cX5_setOuter 44 = .ok (.aload_n 0, 1) := by decide +kernel
theorem dX5_setOuter_45 : decode cX5_setOuter 45 = .ok (.getfield 10, 3) := by decide +kernel
theorem dX5_setOuter_48 : decode cX5_setOuter 48 = .ok (.getfield 58, 3) := by decide +kernel
theorem dX5_setOuter_51 : decode cX5_setOuter 51 = .ok (.iadd, 1) := by decide +kernel
theorem dX5_setOuter_52 : decode cX5_setOuter 52 = .ok (.istore_n 3, 1) := by decide +kernel
theorem dX5_setOuter_53 : decode cX5_setOuter 53 = .ok (.aload_n 0, 1) := by decide +kernel
theorem dX5_setOuter_54 : decode cX5_setOuter 54 = .ok (.getfield 19, 3) := by decide +kernel
theorem dX5_setOuter_57 : decode cX5_setOuter 57 = .ok (.aload_n 0, 1) := by decide +kernel
theorem dX5_setOuter_58 : decode cX5_setOuter 58 = .ok (.getfield 10, 3) := by decide +kernel
theorem dX5_setOuter_61 : decode cX5_setOuter 61 = .ok (.invokevirtual 61, 3) := by decide +kernel
theorem dX5_setOuter_64 : decode cX5_setOuter 64 = .ok (.aload_n 0, 1) := by decide +kernel
theorem dX5_setOuter_65 : decode cX5_setOuter 65 = .ok (.getfield 10, 3) := by decide +kernel
theorem dX5_setOuter_68 : decode cX5_setOuter 68 = .ok (.iload_n 1, 1) := by decide +kernel
theorem dX5_setOuter_69 : decode cX5_setOuter 69 = .ok (.putfield 55, 3) := by decide +kernel
theorem dX5_setOuter_72 : decode cX5_setOuter 72 = .ok (.aload_n 0, 1) := by decide +kernel
theorem dX5_setOuter_73 : decode cX5_setOuter 73 = .ok (.getfield 10, 3) := by decide +kernel
theorem dX5_setOuter_76 : decode cX5_setOuter 76 = .ok (.iload_n 2, 1) := by decide +kernel
theorem dX5_setOuter_77 : decode cX5_setOuter 77 = .ok (.putfield 58, 3) := by decide +kernel
theorem dX5_setOuter_80 : decode cX5_setOuter 80 = .ok (.aload_n 0, 1) := by decide +kernel
theorem dX5_setOuter_81 : decode cX5_setOuter 81 = .ok (.getfield 10, 3) := by decide +kernel
theorem dX5_setOuter_84 : decode cX5_setOuter 84 = .ok (.invokevirtual 65, 3) := by decide +kernel
theorem dX5_setOuter_87 : decode cX5_setOuter 87 = .ok (.aload_n 0, 1) := by decide +kernel
theorem dX5_setOuter_88 : decode cX5_setOuter 88 = .ok (.invokevirtual 52, 3) := by decide +kernel
theorem dX5_setOuter_91 : decode cX5_setOuter 91 = .ok (.iload_n 3, 1) := by decide +kernel
theorem dX5_setOuter_92 : decode cX5_setOuter 92 = .ok (.ireturn, 1) := by decide +kernel
theorem dX5_clearGenerators_0 : decode cX5_clearGenerators 0 = .ok (.aload_n 0, 1) := by decide +kernel
theorem dX5_clearGenerators_1 : decode cX5_clearGenerators 1 = .ok (.getfield 48, 3) := by decide +kernel
theorem dX5_clearGenerators_4 : decode cX5_clearGenerators 4 = .ok (.istore_n 1, 1) := by decide +kernel
theorem dX5_clearGenerators_5 : decode cX5_clearGenerators 5 = .ok (.aload_n 0, 1) := by decide +kernel
theorem dX5_clearGenerators_6 : decode cX5_clearGenerators 6 = .ok (.iconst 0, 1) := by decide +kernel
theorem dX5_clearGenerators_7 : decode cX5_clearGenerators 7 = .ok (.putfield 48, 3) := by decide +kernel
theorem dX5_clearGenerators_10 : decode cX5_clearGenerators 10 = .ok (.iload_n 1, 1) := by decide +kernel
theorem dX5_clearGenerators_11 : decode cX5_clearGenerators 11 = .ok (.ireturn, 1) := by decide +kernel
set_option maxRecDepth 20000 in
theorem ggX5_undo_X0_restoreLatest : GoodIn wsX5_undo wsX0_restoreLatest := goodIn_r _ [6, 7, 8, 9, 10, 11, 12, 13, 14, 15, 16, 17, 18, 19, 90, 91, 92, 93, 94, 95, 96, 97, 98] (by decide +kernel) (by decide +kernel)
set_option maxRecDepth 20000 in
theorem gX5_undo_X0_restoreLatest_n84 : GoodIn wsX5_undo (wsX0_restoreLatest) := ggX5_undo_X0_restoreLatest
set_option maxRecDepth 20000 in
theorem ggX5_undo_X5_readAgain : GoodIn wsX5_undo wsX5_readAgain := goodIn_r _ [24, 25, 2, 26, 27, 28, 29, 30, 31, 32, 33, 34, 35, 36, 37, 23, 38, 39, 40, 41, 42, 43, 44, 45, 46, 47, 48, 49, 50, 51, 52, 53, 54, 55, 56, 57, 58, 59, 60, 61, 62, 63, 64, 65, 66, 67, 68, 69, 70, 71, 72, 73, 74, 75, 76, 77, 78, 79, 80, 81, 82, 83, 84, 85, 86, 87, 88, 89, 92, 93, 94, 95, 96, 97, 98, 99, 100, 101, 102, 103, 104, 105, 106, 107, 108] (by decide +kernel) (by decide +kernel)
set_option maxRecDepth 20000 in
theorem gX5_undo_X5_readAgain : GoodIn wsX5_undo (wsV RX5 52 RX5 yX5_readAgain wsX5_readAgain) := goodIn_app (goodIn_of _ (by decide +kernel)) ggX5_undo_X5_readAgain
theorem dX5_undo_0 : decode cX5_undo 0 = .ok (.aload_n 0, 1) := by decide +kernel
theorem dX5_undo_1 : decode cX5_undo 1 = .ok (.getfield 19, 3) := by decide +kernel
theorem dX5_undo_4 : decode cX5_undo 4 = .ok (.getfield 81, 3) := by decide +kernel
theorem dX5_undo_7 : decode cX5_undo 7 = .ok (.ifCond .ne 7, 3) := by decide +kernel
theorem dX5_undo_10 : decode cX5_undo 10 = .ok (.sipush (-1002), 3) := by decide +kernel
theorem dX5_undo_13 : decode cX5_undo 13 = .ok (.ireturn, 1) := by decide +kernel
theorem dX5_undo_14 : decode cX5_undo 14 = .ok (.aload_n 0, 1) := by decide +kernel
theorem dX5_undo_15 : decode cX5_undo 15 = .ok (.getfield 19, 3) := by decide +kernel
theorem dX5_undo_18 : decode cX5_undo 18 = .ok (.aload_n 0, 1) := by decide +kernel
theorem dX5_undo_19 : decode cX5_undo 19 = .ok (.getfield 10, 3) := by decide +kernel
theorem dX5_undo_22 : decode cX5_undo 22 = .ok (.invokevirtual 84, 3) := by decide +kernel
theorem dX5_undo_25 : decode cX5_undo 25 = .ok (.aload_n 0, 1) := by decide +kernel
theorem dX5_undo_26 : decode cX5_undo 26 = .ok (.invokevirtual 52, 3) := by decide +kernel
theorem dX5_undo_29 : decode cX5_undo 29 = .ok (.aload_n 0, 1) := by decide +kernel
theorem dX5_undo_30 : decode cX5_undo 30 = .ok (.getfield 19, 3) := by decide +kernel
theorem dX5_undo_33 : decode cX5_undo 33 = .ok (.getfield 81, 3) := by decide +kernel
theorem dX5_undo_36 : decode cX5_undo 36 = .ok (.ireturn, 1) := by decide +kernel
set_option maxRecDepth 20000 in
theorem ggX5_count_X4_outerDistance : GoodIn wsX5_count wsX4_outerDistance := goodIn_r _ [8, 9, 10, 47, 48, 49, 50, 51, 52, 53] (by decide +kernel) (by decide +kernel)
set_option maxRecDepth 20000 in
theorem gX5_count_X4_outerDistance_n87 : GoodIn wsX5_count (wsX4_outerDistance) := ggX5_count_X4_outerDistance
set_option maxRecDepth 20000 in
theorem ggX5_count_X5_lostBlocks : GoodIn wsX5_count wsX5_lostBlocks := goodIn_r _ [15, 1, 40, 41, 42, 43, 44, 45, 46, 47, 48, 49, 50, 51, 52, 53] (by decide +kernel) (by decide +kernel)
set_option maxRecDepth 20000 in
theorem gX5_count_X5_lostBlocks : GoodIn wsX5_count (wsV RX5 91 RX5 yX5_lostBlocks wsX5_lostBlocks) := goodIn_app (goodIn_of _ (by decide +kernel)) ggX5_count_X5_lostBlocks
set_option maxRecDepth 20000 in
theorem ggX5_count_X5_wrongBits : GoodIn wsX5_count wsX5_wrongBits := goodIn_r _ [19, 1, 20, 21, 22, 14, 23, 2, 24, 25, 26, 27, 28, 29, 30, 31, 32, 33, 34, 35, 36, 37, 38, 39, 40, 41, 42, 43, 44, 45, 46, 47, 48, 49, 50, 51, 52, 53, 54, 55, 58] (by decide +kernel) (by decide +kernel)
set_option maxRecDepth 20000 in
theorem gX5_count_X5_wrongBits : GoodIn wsX5_count (wsV RX5 94 RX5 yX5_wrongBits wsX5_wrongBits) := goodIn_app (goodIn_of _ (by decide +kernel)) ggX5_count_X5_wrongBits
theorem dX5_count_0 : decode cX5_count 0 = .ok (.iload_n 1, 1) := by decide +kernel
theorem dX5_count_1 : decode cX5_count 1 = .ok (.tableswitch 114 0 8 #[51, 59, 67, 75, 83, 91, 96, 104, 109], 51) := by decide +kernel
theorem dX5_count_52 : decode cX5_count 52 = .ok (.aload_n 0, 1) := by decide +kernel
theorem dX5_count_53 : decode cX5_count 53 = .ok (.getfield 10, 3) := by decide +kernel
theorem dX5_count_56 : decode cX5_count 56 = .ok (.getfield 55, 3) := by decide +kernel
theorem dX5_count_59 : decode cX5_count 59 = .ok (.ireturn, 1) := by decide +kernel
theorem dX5_count_60 : decode cX5_count 60 = .ok (.aload_n 0, 1) := by decide +kernel
theorem dX5_count_61 : decode cX5_count 61 = .ok (.getfield 10, 3) := by decide +kernel
theorem dX5_count_64 : decode cX5_count 64 = .ok (.getfield 58, 3) := by decide +kernel
theorem dX5_count_67 : decode cX5_count 67 = .ok (.ireturn, 1) := by decide +kernel
theorem dX5_count_68 : decode cX5_count 68 = .ok (.aload_n 0, 1) := by decide +kernel
theorem dX5_count_69 : decode cX5_count 69 = .ok (.getfield 10, 3) := by decide +kernel
theorem dX5_count_72 : decode cX5_count 72 = .ok (.invokevirtual 87, 3) := by decide +kernel
theorem dX5_count_75 : decode cX5_count 75 = .ok (.ireturn, 1) := by decide +kernel
theorem dX5_count_76 : decode cX5_count 76 = .ok (.aload_n 0, 1) := by decide +kernel
theorem dX5_count_77 : decode cX5_count 77 = .ok (.getfield 10, 3) := by decide +kernel
theorem dX5_count_80 : decode cX5_count 80 = .ok (.getfield 72, 3) := by decide +kernel
theorem dX5_count_83 : decode cX5_count 83 = .ok (.ireturn, 1) := by decide +kernel
theorem dX5_count_84 : decode cX5_count 84 = .ok (.aload_n 0, 1) := by decide +kernel
theorem dX5_count_85 : decode cX5_count 85 = .ok (.getfield 26, 3) := by decide +kernel
theorem dX5_count_88 : decode cX5_count 88 = .ok (.getfield 78, 3) := by decide +kernel
theorem dX5_count_91 : decode cX5_count 91 = .ok (.ireturn, 1) := by decide +kernel
theorem dX5_count_92 : decode cX5_count 92 = .ok (.aload_n 0, 1) := by decide +kernel
theorem dX5_count_93 : decode cX5_count 93 = .ok (.getfield 48, 3) := by decide +kernel
theorem dX5_count_96 : decode cX5_count 96 = .ok (.ireturn, 1) := by decide +kernel
theorem dX5_count_97 : decode cX5_count 97 = .ok (.aload_n 0, 1) := by decide +kernel
theorem dX5_count_98 : decode cX5_count 98 = .ok (.getfield 19, 3) := by decide +kernel
theorem dX5_count_101 : decode cX5_count 101 = .ok (.getfield 81, 3) := by decide +kernel
theorem dX5_count_104 : decode cX5_count 104 = .ok (.ireturn, 1) := by decide +kernel
theorem dX5_count_105 : decode cX5_count 105 = .ok (.aload_n 0, 1) := by decide +kernel
theorem dX5_count_106 : decode cX5_count 106 = .ok (.invokevirtual 91, 3) := by decide +kernel
theorem dX5_count_109 : decode cX5_count 109 = .ok (.ireturn, 1) := by decide +kernel
theorem dX5_count_110 : decode cX5_count 110 = .ok (.aload_n 0, 1) := by decide +kernel
theorem dX5_count_111 : decode cX5_count 111 = .ok (.invokevirtual 94, 3) := by decide +kernel
theorem dX5_count_114 : decode cX5_count 114 = .ok (.ireturn, 1) := by decide +kernel
theorem dX5_count_115 : decode cX5_count 115 = .ok (.sipush (-1001), 3) := by decide +kernel
theorem dX5_count_118 : decode cX5_count 118 = .ok (.ireturn, 1) := by decide +kernel
set_option maxRecDepth 20000 in
theorem ggX5_send_X5_isMessage : GoodIn wsX5_send wsX5_isMessage := goodIn_r _ [7, 2, 8, 9, 10, 11, 12, 110, 111, 112, 113, 114, 115, 116, 117, 118, 119, 120, 121, 122, 123] (by decide +kernel) (by decide +kernel)
set_option maxRecDepth 20000 in
theorem gX5_send_X5_isMessage : GoodIn wsX5_send (wsV RX5 108 RX5 yX5_isMessage wsX5_isMessage) := goodIn_app (goodIn_of _ (by decide +kernel)) ggX5_send_X5_isMessage
set_option maxRecDepth 20000 in
theorem ggX5_send_X0_record : GoodIn wsX5_send wsX0_record := goodIn_r _ [16, 17, 18, 19, 20, 21, 14, 22, 23, 9, 24, 25, 26, 12, 27, 28, 29, 30, 31, 124, 125, 117, 118, 119, 120, 121, 122, 123] (by decide +kernel) (by decide +kernel)
set_option maxRecDepth 20000 in
theorem gX5_send_X0_record_n61 : GoodIn wsX5_send (wsX0_record) := ggX5_send_X0_record
set_option maxRecDepth 20000 in
theorem ggX5_send_X4_clearBlocks : GoodIn wsX5_send wsX4_clearBlocks := goodIn_r _ [34, 28, 30, 31, 117, 118, 119, 120, 121, 122, 123] (by decide +kernel) (by decide +kernel)
set_option maxRecDepth 20000 in
theorem gX5_send_X4_clearBlocks_n65 : GoodIn wsX5_send (wsX4_clearBlocks) := ggX5_send_X4_clearBlocks
set_option maxRecDepth 20000 in
theorem ggX5_send_X5_wordSentFor : GoodIn wsX5_send wsX5_wordSentFor := goodIn_r _ [38, 39, 40, 41, 42, 43, 44, 45, 46, 47, 6, 48, 110, 111, 112, 113, 114, 115, 116, 126, 127, 128] (by decide +kernel) (by decide +kernel)
set_option maxRecDepth 20000 in
theorem gX5_send_X5_wordSentFor : GoodIn wsX5_send (wsV RX5 125 RX5 yX5_wordSentFor wsX5_wordSentFor) := goodIn_app (goodIn_of _ (by decide +kernel)) ggX5_send_X5_wordSentFor
set_option maxRecDepth 20000 in
theorem ggX5_send_J6_bitCount_0f7a4 : GoodIn wsX5_send wsJ6_bitCount_0f7a4 := goodIn_r _ [52, 53, 54, 55] (by decide +kernel) (by decide +kernel)
set_option maxRecDepth 20000 in
theorem gX5_send_J6_bitCount_0f7a4 : GoodIn wsX5_send (va_wsS RX5 129 yJ6_bitCount_0f7a4 wsJ6_bitCount_0f7a4) := goodIn_app (goodIn_of _ (by decide +kernel)) ggX5_send_J6_bitCount_0f7a4
set_option maxRecDepth 20000 in
theorem ggX5_send_X5_readAgain : GoodIn wsX5_send wsX5_readAgain := goodIn_r _ [59, 39, 2, 60, 61, 62, 63, 64, 65, 66, 67, 68, 69, 70, 71, 6, 72, 73, 50, 51, 52, 53, 54, 55, 74, 75, 76, 77, 78, 79, 80, 81, 82, 83, 84, 42, 85, 86, 87, 88, 89, 90, 91, 92, 93, 94, 95, 96, 97, 98, 99, 100, 101, 102, 103, 104, 105, 106, 107, 108, 109, 110, 111, 112, 113, 114, 115, 116, 117, 118, 119, 120, 121, 122, 123, 126, 127, 129, 130, 131, 132, 133, 134, 135, 136] (by decide +kernel) (by decide +kernel)
set_option maxRecDepth 20000 in
theorem gX5_send_X5_readAgain : GoodIn wsX5_send (wsV RX5 52 RX5 yX5_readAgain wsX5_readAgain) := goodIn_app (goodIn_of _ (by decide +kernel)) ggX5_send_X5_readAgain
theorem dX5_send_0 : decode cX5_send 0 = .ok (.aload_n 0, 1) := by decide +kernel
theorem dX5_send_1 : decode cX5_send 1 = .ok (.iload_n 1, 1) := by decide +kernel
theorem dX5_send_2 : decode cX5_send 2 = .ok (.invokevirtual 108, 3) := by decide +kernel
theorem dX5_send_5 : decode cX5_send 5 = .ok (.ifCond .ne 7, 3) := by decide +kernel
theorem dX5_send_8 : decode cX5_send 8 = .ok (.sipush (-1001), 3) := by decide +kernel
theorem dX5_send_11 : decode cX5_send 11 = .ok (.ireturn, 1) := by decide +kernel
theorem dX5_send_12 : decode cX5_send 12 = .ok (.aload_n 0, 1) := by decide +kernel
theorem dX5_send_13 : decode cX5_send 13 = .ok (.getfield 19, 3) := by decide +kernel
theorem dX5_send_16 : decode cX5_send 16 = .ok (.aload_n 0, 1) := by decide +kernel
theorem dX5_send_17 : decode cX5_send 17 = .ok (.getfield 10, 3) := by decide +kernel
theorem dX5_send_20 : decode cX5_send 20 = .ok (.invokevirtual 61, 3) := by decide +kernel
theorem dX5_send_23 : decode cX5_send 23 = .ok (.aload_n 0, 1) := by decide +kernel
theorem dX5_send_24 : decode cX5_send 24 = .ok (.getfield 10, 3) := by decide +kernel
theorem dX5_send_27 : decode cX5_send 27 = .ok (.invokevirtual 65, 3) := by decide +kernel
theorem dX5_send_30 : decode cX5_send 30 = .ok (.aload_n 0, 1) := by decide +kernel
theorem dX5_send_31 : decode cX5_send 31 = .ok (.getfield 10, 3) := by decide +kernel
theorem dX5_send_34 : decode cX5_send 34 = .ok (.iload_n 1, 1) := by decide +kernel
theorem dX5_send_35 : decode cX5_send 35 = .ok (.putfield 122, 3) := by decide +kernel
theorem dX5_send_38 : decode cX5_send 38 = .ok (.iconst 0, 1) := by decide +kernel
theorem dX5_send_39 : decode cX5_send 39 = .ok (.istore_n 2, 1) := by decide +kernel
theorem dX5_send_40 : decode cX5_send 40 = .ok (.iconst 0, 1) := by decide +kernel
theorem dX5_send_41 : decode cX5_send 41 = .ok (.istore_n 3, 1) := by decide +kernel
theorem dX5_send_42 : decode cX5_send 42 = .ok (.iload_n 3, 1) := by decide +kernel
theorem dX5_send_43 : decode cX5_send 43 = .ok (.aload_n 0, 1) := by decide +kernel
theorem dX5_send_44 : decode cX5_send 44 = .ok (.getfield 10, 3) := by decide +kernel
theorem dX5_send_47 : decode cX5_send 47 = .ok (.getfield 55, 3) := by decide +kernel
theorem dX5_send_50 : decode cX5_send 50 = .ok (.if_icmp .ge 36, 3) := by decide +kernel
theorem dX5_send_53 : decode cX5_send 53 = .ok (.aload_n 0, 1) := by decide +kernel
theorem dX5_send_54 : decode cX5_send 54 = .ok (.iload_n 1, 1) := by decide +kernel
theorem dX5_send_55 : decode cX5_send 55 = .ok (.iload_n 3, 1) := by decide +kernel
theorem dX5_send_56 : decode cX5_send 56 = .ok (.invokevirtual 125, 3) := by decide +kernel
theorem dX5_send_59 : decode cX5_send 59 = .ok (.istore 4, 2) := by decide +kernel
theorem dX5_send_61 : decode cX5_send 61 = .ok (.aload_n 0, 1) := by decide +kernel
theorem dX5_send_62 : decode cX5_send 62 = .ok (.getfield 10, 3) := by decide +kernel
theorem dX5_send_65 : decode cX5_send 65 = .ok (.getfield 128, 3) := by decide +kernel
theorem dX5_send_68 : decode cX5_send 68 = .ok (.iload_n 3, 1) := by decide +kernel
theorem dX5_send_69 : decode cX5_send 69 = .ok (.iload 4, 2) := by decide +kernel
theorem dX5_send_71 : decode cX5_send 71 = .ok (.iastore, 1) := by decide +kernel
theorem dX5_send_72 : decode cX5_send 72 = .ok (.iload_n 2, 1) := by decide +kernel
theorem dX5_send_73 : decode cX5_send 73 = .ok (.iload 4, 2) := by decide +kernel
theorem dX5_send_75 : decode cX5_send 75 = .ok (.invokestatic 129, 3) := by decide +kernel
theorem dX5_send_78 : decode cX5_send 78 = .ok (.iadd, 1) := by decide +kernel
theorem dX5_send_79 : decode cX5_send 79 = .ok (.istore_n 2, 1) := by decide +kernel
theorem dX5_send_80 : decode cX5_send 80 = .ok (.iinc 3 1, 3) := by decide +kernel
theorem dX5_send_83 : decode cX5_send 83 = .ok (.goto (-41), 3) := by decide +kernel
theorem dX5_send_86 : decode cX5_send 86 = .ok (.aload_n 0, 1) := by decide +kernel
theorem dX5_send_87 : decode cX5_send 87 = .ok (.invokevirtual 52, 3) := by decide +kernel
theorem dX5_send_90 : decode cX5_send 90 = .ok (.iload_n 2, 1) := by decide +kernel
theorem dX5_send_91 : decode cX5_send 91 = .ok (.ireturn, 1) := by decide +kernel
set_option maxRecDepth 20000 in
theorem ggX5_flip_X5_isBlock : GoodIn wsX5_flip wsX5_isBlock := goodIn_r _ [8, 1, 94, 95, 96, 97, 98, 99, 100, 101, 102, 103, 104, 105, 106, 107] (by decide +kernel) (by decide +kernel)
set_option maxRecDepth 20000 in
theorem gX5_flip_X5_isBlock : GoodIn wsX5_flip (wsV RX5 111 RX5 yX5_isBlock wsX5_isBlock) := goodIn_app (goodIn_of _ (by decide +kernel)) ggX5_flip_X5_isBlock
set_option maxRecDepth 20000 in
theorem ggX5_flip_X4_allBits : GoodIn wsX5_flip wsX4_allBits := goodIn_r _ [12, 13, 101, 102, 103, 104, 105, 106, 107] (by decide +kernel) (by decide +kernel)
set_option maxRecDepth 20000 in
theorem gX5_flip_X4_allBits_n135 : GoodIn wsX5_flip (wsX4_allBits) := ggX5_flip_X4_allBits
set_option maxRecDepth 20000 in
theorem ggX5_flip_X0_record : GoodIn wsX5_flip wsX0_record := goodIn_r _ [17, 18, 19, 20, 21, 22, 15, 23, 24, 10, 25, 26, 27, 28, 13, 29, 30, 31, 32, 116, 117, 101, 102, 103, 104, 105, 106, 107] (by decide +kernel) (by decide +kernel)
set_option maxRecDepth 20000 in
theorem gX5_flip_X0_record_n61 : GoodIn wsX5_flip (wsX0_record) := ggX5_flip_X0_record
set_option maxRecDepth 20000 in
theorem ggX5_flip_X5_readAgain : GoodIn wsX5_flip wsX5_readAgain := goodIn_r _ [36, 37, 1, 3, 38, 39, 40, 41, 42, 43, 44, 45, 46, 47, 48, 7, 49, 50, 51, 52, 53, 54, 55, 56, 57, 58, 59, 60, 61, 62, 63, 64, 65, 66, 67, 68, 69, 70, 71, 72, 73, 74, 75, 76, 77, 78, 79, 80, 81, 82, 83, 84, 85, 86, 87, 88, 89, 90, 91, 92, 93, 94, 95, 96, 97, 98, 99, 100, 101, 102, 103, 104, 105, 106, 107, 118, 119, 108, 109, 110, 111, 112, 113, 114, 115] (by decide +kernel) (by decide +kernel)
set_option maxRecDepth 20000 in
theorem gX5_flip_X5_readAgain : GoodIn wsX5_flip (wsV RX5 52 RX5 yX5_readAgain wsX5_readAgain) := goodIn_app (goodIn_of _ (by decide +kernel)) ggX5_flip_X5_readAgain
theorem dX5_flip_0 : decode cX5_flip 0 = .ok (.aload_n 0, 1) := by decide +kernel
theorem dX5_flip_1 : decode cX5_flip 1 = .ok (.iload_n 1, 1) := by decide +kernel
theorem dX5_flip_2 : decode cX5_flip 2 = .ok (.invokevirtual 111, 3) := by decide +kernel
theorem dX5_flip_5 : decode cX5_flip 5 = .ok (.ifCond .eq 19, 3) := by decide +kernel
theorem dX5_flip_8 : decode cX5_flip 8 = .ok (.iload_n 2, 1) := by decide +kernel
theorem dX5_flip_9 : decode cX5_flip 9 = .ok (.iconst 1, 1) := by decide +kernel
theorem dX5_flip_10 : decode cX5_flip 10 = .ok (.if_icmp .lt 14, 3) := by decide +kernel
theorem dX5_flip_13 : decode cX5_flip 13 = .ok (.iload_n 2, 1) := by decide +kernel
theorem dX5_flip_14 : decode cX5_flip 14 = .ok (.aload_n 0, 1) := by decide +kernel
theorem dX5_flip_15 : decode cX5_flip 15 = .ok (.getfield 10, 3) := by decide +kernel
theorem dX5_flip_18 : decode cX5_flip 18 = .ok (.invokevirtual 135, 3) := by decide +kernel
theorem dX5_flip_21 : decode cX5_flip 21 = .ok (.if_icmp .le 7, 3) := by decide +kernel
theorem dX5_flip_24 : decode cX5_flip 24 = .ok (.sipush (-1001), 3) := by decide +kernel
theorem dX5_flip_27 : decode cX5_flip 27 = .ok (.ireturn, 1) := by decide +kernel
theorem dX5_flip_28 : decode cX5_flip 28 = .ok (.aload_n 0, 1) := by decide +kernel
theorem dX5_flip_29 : decode cX5_flip 29 = .ok (.getfield 10, 3) := by decide +kernel
theorem dX5_flip_32 : decode cX5_flip 32 = .ok (.getfield 138, 3) := by decide +kernel
theorem dX5_flip_35 : decode cX5_flip 35 = .ok (.iload_n 1, 1) := by decide +kernel
theorem dX5_flip_36 : decode cX5_flip 36 = .ok (.baload, 1) := by decide +kernel
theorem dX5_flip_37 : decode cX5_flip 37 = .ok (.ifCond .eq 7, 3) := by decide +kernel
theorem dX5_flip_40 : decode cX5_flip 40 = .ok (.sipush (-1002), 3) := by decide +kernel
theorem dX5_flip_43 : decode cX5_flip 43 = .ok (.ireturn, 1) := by decide +kernel
theorem dX5_flip_44 : decode cX5_flip 44 = .ok (.aload_n 0, 1) := by decide +kernel
theorem dX5_flip_45 : decode cX5_flip 45 = .ok (.getfield 19, 3) := by decide +kernel
theorem dX5_flip_48 : decode cX5_flip 48 = .ok (.aload_n 0, 1) := by decide +kernel
theorem dX5_flip_49 : decode cX5_flip 49 = .ok (.getfield 10, 3) := by decide +kernel
theorem dX5_flip_52 : decode cX5_flip 52 = .ok (.invokevirtual 61, 3) := by decide +kernel
theorem dX5_flip_55 : decode cX5_flip 55 = .ok (.aload_n 0, 1) := by decide +kernel
theorem dX5_flip_56 : decode cX5_flip 56 = .ok (.getfield 10, 3) := by decide +kernel
theorem dX5_flip_59 : decode cX5_flip 59 = .ok (.getfield 128, 3) := by decide +kernel
theorem dX5_flip_62 : decode cX5_flip 62 = .ok (.iload_n 1, 1) := by decide +kernel
theorem dX5_flip_63 : decode cX5_flip 63 = .ok (.dup2, 1) := by decide +kernel
theorem dX5_flip_64 : decode cX5_flip 64 = .ok (.iaload, 1) := by decide +kernel
theorem dX5_flip_65 : decode cX5_flip 65 = .ok (.iload_n 2, 1) := by decide +kernel
theorem dX5_flip_66 : decode cX5_flip 66 = .ok (.ixor, 1) := by decide +kernel
theorem dX5_flip_67 : decode cX5_flip 67 = .ok (.iastore, 1) := by decide +kernel
theorem dX5_flip_68 : decode cX5_flip 68 = .ok (.aload_n 0, 1) := by decide +kernel
theorem dX5_flip_69 : decode cX5_flip 69 = .ok (.invokevirtual 52, 3) := by decide +kernel
theorem dX5_flip_72 : decode cX5_flip 72 = .ok (.aload_n 0, 1) := by decide +kernel
theorem dX5_flip_73 : decode cX5_flip 73 = .ok (.getfield 40, 3) := by decide +kernel
theorem dX5_flip_76 : decode cX5_flip 76 = .ok (.getfield 142, 3) := by decide +kernel
theorem dX5_flip_79 : decode cX5_flip 79 = .ok (.iload_n 1, 1) := by decide +kernel
theorem dX5_flip_80 : decode cX5_flip 80 = .ok (.iaload, 1) := by decide +kernel
theorem dX5_flip_81 : decode cX5_flip 81 = .ok (.ireturn, 1) := by decide +kernel
set_option maxRecDepth 20000 in
theorem ggX5_lose_X5_isBlock : GoodIn wsX5_lose wsX5_isBlock := goodIn_r _ [7, 1, 91, 92, 93, 94, 95, 96, 97, 98, 99, 100, 101, 102, 103, 104] (by decide +kernel) (by decide +kernel)
set_option maxRecDepth 20000 in
theorem gX5_lose_X5_isBlock : GoodIn wsX5_lose (wsV RX5 111 RX5 yX5_isBlock wsX5_isBlock) := goodIn_app (goodIn_of _ (by decide +kernel)) ggX5_lose_X5_isBlock
set_option maxRecDepth 20000 in
theorem ggX5_lose_X0_record : GoodIn wsX5_lose wsX0_record := goodIn_r _ [11, 12, 13, 14, 15, 16, 9, 17, 18, 19, 20, 21, 22, 23, 24, 25, 26, 27, 28, 105, 106, 98, 99, 100, 101, 102, 103, 104] (by decide +kernel) (by decide +kernel)
set_option maxRecDepth 20000 in
theorem gX5_lose_X0_record_n61 : GoodIn wsX5_lose (wsX0_record) := ggX5_lose_X0_record
set_option maxRecDepth 20000 in
theorem ggX5_lose_X5_readAgain : GoodIn wsX5_lose wsX5_readAgain := goodIn_r _ [32, 33, 1, 34, 35, 36, 37, 38, 39, 40, 41, 42, 43, 44, 45, 6, 46, 47, 48, 49, 50, 51, 52, 53, 54, 55, 56, 57, 58, 59, 60, 61, 62, 63, 64, 65, 66, 67, 68, 69, 70, 71, 72, 73, 74, 75, 76, 77, 78, 79, 80, 81, 82, 83, 84, 85, 86, 87, 88, 89, 90, 91, 92, 93, 94, 95, 96, 97, 98, 99, 100, 101, 102, 103, 104, 107, 108, 109, 110, 111, 112, 113, 114, 115, 116] (by decide +kernel) (by decide +kernel)
set_option maxRecDepth 20000 in
theorem gX5_lose_X5_readAgain : GoodIn wsX5_lose (wsV RX5 52 RX5 yX5_readAgain wsX5_readAgain) := goodIn_app (goodIn_of _ (by decide +kernel)) ggX5_lose_X5_readAgain
theorem dX5_lose_0 : decode cX5_lose 0 = .ok (.aload_n 0, 1) := by decide +kernel
theorem dX5_lose_1 : decode cX5_lose 1 = .ok (.iload_n 1, 1) := by decide +kernel
theorem dX5_lose_2 : decode cX5_lose 2 = .ok (.invokevirtual 111, 3) := by decide +kernel
theorem dX5_lose_5 : decode cX5_lose 5 = .ok (.ifCond .eq 12, 3) := by decide +kernel
theorem dX5_lose_8 : decode cX5_lose 8 = .ok (.iload_n 2, 1) := by decide +kernel
theorem dX5_lose_9 : decode cX5_lose 9 = .ok (.ifCond .lt 8, 3) := by decide +kernel
theorem dX5_lose_12 : decode cX5_lose 12 = .ok (.iload_n 2, 1) := by decide +kernel
theorem dX5_lose_13 : decode cX5_lose 13 = .ok (.iconst 1, 1) := by decide +kernel
theorem dX5_lose_14 : decode cX5_lose 14 = .ok (.if_icmp .le 7, 3) := by decide +kernel
theorem dX5_lose_17 : decode cX5_lose 17 = .ok (.sipush (-1001), 3) := by decide +kernel
theorem dX5_lose_20 : decode cX5_lose 20 = .ok (.ireturn, 1) := by decide +kernel
theorem dX5_lose_21 : decode cX5_lose 21 = .ok (.aload_n 0, 1) := by decide +kernel
theorem dX5_lose_22 : decode cX5_lose 22 = .ok (.getfield 10, 3) := by decide +kernel
theorem dX5_lose_25 : decode cX5_lose 25 = .ok (.getfield 138, 3) := by decide +kernel
theorem dX5_lose_28 : decode cX5_lose 28 = .ok (.iload_n 1, 1) := by decide +kernel
theorem dX5_lose_29 : decode cX5_lose 29 = .ok (.baload, 1) := by decide +kernel
theorem dX5_lose_30 : decode cX5_lose 30 = .ok (.ifCond .eq 7, 3) := by decide +kernel
theorem dX5_lose_33 : decode cX5_lose 33 = .ok (.iconst 1, 1) := by decide +kernel
theorem dX5_lose_34 : decode cX5_lose 34 = .ok (.goto 4, 3) := by decide +kernel
theorem dX5_lose_37 : decode cX5_lose 37 = .ok (.iconst 0, 1) := by decide +kernel
theorem dX5_lose_38 : decode cX5_lose 38 = .ok (.istore_n 3, 1) := by decide +kernel
theorem dX5_lose_39 : decode cX5_lose 39 = .ok (.aload_n 0, 1) := by decide +kernel
theorem dX5_lose_40 : decode cX5_lose 40 = .ok (.getfield 19, 3) := by decide +kernel
theorem dX5_lose_43 : decode cX5_lose 43 = .ok (.aload_n 0, 1) := by decide +kernel
theorem dX5_lose_44 : decode cX5_lose 44 = .ok (.getfield 10, 3) := by decide +kernel
theorem dX5_lose_47 : decode cX5_lose 47 = .ok (.invokevirtual 61, 3) := by decide +kernel
theorem dX5_lose_50 : decode cX5_lose 50 = .ok (.aload_n 0, 1) := by decide +kernel
theorem dX5_lose_51 : decode cX5_lose 51 = .ok (.getfield 10, 3) := by decide +kernel
theorem dX5_lose_54 : decode cX5_lose 54 = .ok (.getfield 138, 3) := by decide +kernel
theorem dX5_lose_57 : decode cX5_lose 57 = .ok (.iload_n 1, 1) := by decide +kernel
theorem dX5_lose_58 : decode cX5_lose 58 = .ok (.iload_n 2, 1) := by decide +kernel
theorem dX5_lose_59 : decode cX5_lose 59 = .ok (.iconst 1, 1) := by decide +kernel
theorem dX5_lose_60 : decode cX5_lose 60 = .ok (.if_icmp .ne 7, 3) := by decide +kernel
theorem dX5_lose_63 : decode cX5_lose 63 = .ok (.iconst 1, 1) := by decide +kernel
theorem dX5_lose_64 : decode cX5_lose 64 = .ok (.goto 4, 3) := by decide +kernel
theorem dX5_lose_67 : decode cX5_lose 67 = .ok (.iconst 0, 1) := by decide +kernel
theorem dX5_lose_68 : decode cX5_lose 68 = .ok (.bastore, 1) := by decide +kernel
theorem dX5_lose_69 : decode cX5_lose 69 = .ok (.aload_n 0, 1) := by decide +kernel
theorem dX5_lose_70 : decode cX5_lose 70 = .ok (.invokevirtual 52, 3) := by decide +kernel
theorem dX5_lose_73 : decode cX5_lose 73 = .ok (.iload_n 3, 1) := by decide +kernel
theorem dX5_lose_74 : decode cX5_lose 74 = .ok (.ireturn, 1) := by decide +kernel
set_option maxRecDepth 20000 in
theorem ggX5_burst_X0_record : GoodIn wsX5_burst wsX0_record := goodIn_r _ [6, 7, 8, 9, 10, 11, 4, 12, 13, 14, 15, 16, 17, 18, 19, 20, 21, 22, 23, 107, 108, 100, 101, 102, 103, 104, 105, 106] (by decide +kernel) (by decide +kernel)
set_option maxRecDepth 20000 in
theorem gX5_burst_X0_record_n61 : GoodIn wsX5_burst (wsX0_record) := ggX5_burst_X0_record
set_option maxRecDepth 20000 in
theorem ggX5_burst_X5_burstMask : GoodIn wsX5_burst wsX5_burstMask := goodIn_r _ [28, 1, 29, 30, 31, 32, 33, 34, 35, 93, 94, 95, 96, 97, 98, 99, 100, 101, 102, 103, 104, 105, 106] (by decide +kernel) (by decide +kernel)
set_option maxRecDepth 20000 in
theorem gX5_burst_X5_burstMask : GoodIn wsX5_burst (wsV RX5 145 RX5 yX5_burstMask wsX5_burstMask) := goodIn_app (goodIn_of _ (by decide +kernel)) ggX5_burst_X5_burstMask
set_option maxRecDepth 20000 in
theorem ggX5_burst_X5_readAgain : GoodIn wsX5_burst wsX5_readAgain := goodIn_r _ [39, 40, 1, 41, 42, 43, 44, 45, 46, 47, 48, 34, 31, 35, 49, 27, 50, 51, 52, 53, 54, 55, 56, 57, 58, 59, 60, 61, 62, 63, 64, 65, 66, 67, 68, 69, 70, 71, 72, 73, 74, 75, 76, 77, 78, 79, 80, 81, 82, 83, 84, 85, 86, 87, 88, 30, 32, 89, 90, 91, 92, 93, 94, 95, 96, 97, 98, 99, 100, 101, 102, 103, 104, 105, 106, 109, 110, 111, 112, 113, 114, 115, 116, 117, 118] (by decide +kernel) (by decide +kernel)
set_option maxRecDepth 20000 in
theorem gX5_burst_X5_readAgain : GoodIn wsX5_burst (wsV RX5 52 RX5 yX5_readAgain wsX5_readAgain) := goodIn_app (goodIn_of _ (by decide +kernel)) ggX5_burst_X5_readAgain
theorem dX5_burst_0 : decode cX5_burst 0 = .ok (.aload_n 0, 1) := by decide +kernel
theorem dX5_burst_1 : decode cX5_burst 1 = .ok (.getfield 10, 3) := by decide +kernel
theorem dX5_burst_4 : decode cX5_burst 4 = .ok (.getfield 72, 3) := by decide +kernel
theorem dX5_burst_7 : decode cX5_burst 7 = .ok (.aload_n 0, 1) := by decide +kernel
theorem dX5_burst_8 : decode cX5_burst 8 = .ok (.getfield 10, 3) := by decide +kernel
theorem dX5_burst_11 : decode cX5_burst 11 = .ok (.getfield 55, 3) := by decide +kernel
theorem dX5_burst_14 : decode cX5_burst 14 = .ok (.imul, 1) := by decide +kernel
theorem dX5_burst_15 : decode cX5_burst 15 = .ok (.istore_n 3, 1) := by decide +kernel
theorem dX5_burst_16 : decode cX5_burst 16 = .ok (.iload_n 1, 1) := by decide +kernel
theorem dX5_burst_17 : decode cX5_burst 17 = .ok (.ifCond .lt 20, 3) := by decide +kernel
theorem dX5_burst_20 : decode cX5_burst 20 = .ok (.iload_n 1, 1) := by decide +kernel
theorem dX5_burst_21 : decode cX5_burst 21 = .ok (.iload_n 3, 1) := by decide +kernel
theorem dX5_burst_22 : decode cX5_burst 22 = .ok (.if_icmp .ge 15, 3) := by decide +kernel
theorem dX5_burst_25 : decode cX5_burst 25 = .ok (.iload_n 2, 1) := by decide +kernel
theorem dX5_burst_26 : decode cX5_burst 26 = .ok (.iconst 1, 1) := by decide +kernel
theorem dX5_burst_27 : decode cX5_burst 27 = .ok (.if_icmp .lt 10, 3) := by decide +kernel
theorem dX5_burst_30 : decode cX5_burst 30 = .ok (.iload_n 2, 1) := by decide +kernel
theorem dX5_burst_31 : decode cX5_burst 31 = .ok (.iload_n 3, 1) := by decide +kernel
theorem dX5_burst_32 : decode cX5_burst 32 = .ok (.iload_n 1, 1) := by decide +kernel
theorem dX5_burst_33 : decode cX5_burst 33 = .ok (.isub, 1) := by decide +kernel
theorem dX5_burst_34 : decode cX5_burst 34 = .ok (.if_icmp .le 7, 3) := by decide +kernel
theorem dX5_burst_37 : decode cX5_burst 37 = .ok (.sipush (-1001), 3) := by decide +kernel
theorem dX5_burst_40 : decode cX5_burst 40 = .ok (.ireturn, 1) := by decide +kernel
theorem dX5_burst_41 : decode cX5_burst 41 = .ok (.aload_n 0, 1) := by decide +kernel
theorem dX5_burst_42 : decode cX5_burst 42 = .ok (.getfield 19, 3) := by decide +kernel
theorem dX5_burst_45 : decode cX5_burst 45 = .ok (.aload_n 0, 1) := by decide +kernel
theorem dX5_burst_46 : decode cX5_burst 46 = .ok (.getfield 10, 3) := by decide +kernel
theorem dX5_burst_49 : decode cX5_burst 49 = .ok (.invokevirtual 61, 3) := by decide +kernel
theorem dX5_burst_52 : decode cX5_burst 52 = .ok (.iconst 0, 1) := by decide +kernel
theorem dX5_burst_53 : decode cX5_burst 53 = .ok (.istore 4, 2) := by decide +kernel
theorem dX5_burst_55 : decode cX5_burst 55 = .ok (.iconst 0, 1) := by decide +kernel
theorem dX5_burst_56 : decode cX5_burst 56 = .ok (.istore 5, 2) := by decide +kernel
theorem dX5_burst_58 : decode cX5_burst 58 = .ok (.iload 5, 2) := by decide +kernel
theorem dX5_burst_60 : decode cX5_burst 60 = .ok (.aload_n 0, 1) := by decide +kernel
theorem dX5_burst_61 : decode cX5_burst 61 = .ok (.getfield 10, 3) := by decide +kernel
theorem dX5_burst_64 : decode cX5_burst 64 = .ok (.getfield 55, 3) := by decide +kernel
theorem dX5_burst_67 : decode cX5_burst 67 = .ok (.if_icmp .ge 44, 3) := by decide +kernel
theorem dX5_burst_70 : decode cX5_burst 70 = .ok (.aload_n 0, 1) := by decide +kernel
theorem dX5_burst_71 : decode cX5_burst 71 = .ok (.iload 5, 2) := by decide +kernel
theorem dX5_burst_73 : decode cX5_burst 73 = .ok (.iload_n 1, 1) := by decide +kernel
theorem dX5_burst_74 : decode cX5_burst 74 = .ok (.iload_n 1, 1) := by decide +kernel
theorem dX5_burst_75 : decode cX5_burst 75 = .ok (.iload_n 2, 1) := by decide +kernel
theorem dX5_burst_76 : decode cX5_burst 76 = .ok (.iadd, 1) := by decide +kernel
theorem dX5_burst_77 : decode cX5_burst 77 = .ok (.invokevirtual 145, 3) := by decide +kernel
theorem dX5_burst_80 : decode cX5_burst 80 = .ok (.istore 6, 2) := by decide +kernel
theorem dX5_burst_82 : decode cX5_burst 82 = .ok (.aload_n 0, 1) := by decide +kernel
theorem dX5_burst_83 : decode cX5_burst 83 = .ok (.getfield 10, 3) := by decide +kernel
theorem dX5_burst_86 : decode cX5_burst 86 = .ok (.getfield 128, 3) := by decide +kernel
theorem dX5_burst_89 : decode cX5_burst 89 = .ok (.iload 5, 2) := by decide +kernel
theorem dX5_burst_91 : decode cX5_burst 91 = .ok (.dup2, 1) := by decide +kernel
theorem dX5_burst_92 : decode cX5_burst 92 = .ok (.iaload, 1) := by decide +kernel
theorem dX5_burst_93 : decode cX5_burst 93 = .ok (.iload 6, 2) := by decide +kernel
theorem dX5_burst_95 : decode cX5_burst 95 = .ok (.ixor, 1) := by decide +kernel
theorem dX5_burst_96 : decode cX5_burst 96 = .ok (.iastore, 1) := by decide +kernel
theorem dX5_burst_97 : decode cX5_burst 97 = .ok (.iload 6, 2) := by decide +kernel
theorem dX5_burst_99 : decode cX5_burst 99 = .ok (.ifCond .eq 6, 3) := by decide +kernel
theorem dX5_burst_102 : decode cX5_burst 102 = .ok (.iinc 4 1, 3) := by decide +kernel
theorem dX5_burst_105 : decode cX5_burst 105 = .ok (.iinc 5 1, 3) := by decide +kernel
theorem dX5_burst_108 : decode cX5_burst 108 = .ok (.goto (-50), 3) := by decide +kernel
theorem dX5_burst_111 : decode cX5_burst 111 = .ok (.aload_n 0, 1) := by decide +kernel
theorem dX5_burst_112 : decode cX5_burst 112 = .ok (.invokevirtual 52, 3) := by decide +kernel
theorem dX5_burst_115 : decode cX5_burst 115 = .ok (.iload 4, 2) := by decide +kernel
theorem dX5_burst_117 : decode cX5_burst 117 = .ok (.ireturn, 1) := by decide +kernel
set_option maxRecDepth 20000 in
theorem ggX5_sendCascade_X5_lawfulMessage : GoodIn wsX5_sendCascade wsX5_lawfulMessage := goodIn_r _ [7, 2, 8, 9, 10, 11, 12, 6, 13, 14, 15, 16, 17, 18, 19, 20, 21, 22, 23, 24, 25, 26, 27, 28, 29, 30, 31, 32, 33, 34, 35, 36, 37, 38, 39, 40, 41, 42, 43, 44, 45, 46, 47, 48, 49, 50, 137, 138, 139, 140, 141, 142, 143, 151, 152, 144, 145, 146, 147, 148, 149, 150, 153, 154, 155, 156, 157, 158, 159, 160, 161] (by decide +kernel) (by decide +kernel)
set_option maxRecDepth 20000 in
theorem gX5_sendCascade_X5_lawfulMessage : GoodIn wsX5_sendCascade (wsV RX5 149 RX5 yX5_lawfulMessage wsX5_lawfulMessage) := goodIn_app (goodIn_of _ (by decide +kernel)) ggX5_sendCascade_X5_lawfulMessage
set_option maxRecDepth 20000 in
theorem ggX5_sendCascade_X0_record : GoodIn wsX5_sendCascade wsX0_record := goodIn_r _ [54, 55, 56, 57, 58, 59, 52, 60, 61, 16, 62, 63, 19, 20, 64, 65, 66, 67, 68, 162, 163, 144, 145, 146, 147, 148, 149, 150] (by decide +kernel) (by decide +kernel)
set_option maxRecDepth 20000 in
theorem gX5_sendCascade_X0_record_n61 : GoodIn wsX5_sendCascade (wsX0_record) := ggX5_sendCascade_X0_record
set_option maxRecDepth 20000 in
theorem ggX5_sendCascade_X5_wordSentFor : GoodIn wsX5_sendCascade wsX5_wordSentFor := goodIn_r _ [72, 14, 8, 24, 25, 26, 27, 28, 73, 74, 6, 75, 137, 138, 139, 140, 141, 142, 143, 151, 152, 153] (by decide +kernel) (by decide +kernel)
set_option maxRecDepth 20000 in
theorem gX5_sendCascade_X5_wordSentFor : GoodIn wsX5_sendCascade (wsV RX5 125 RX5 yX5_wordSentFor wsX5_wordSentFor) := goodIn_app (goodIn_of _ (by decide +kernel)) ggX5_sendCascade_X5_wordSentFor
set_option maxRecDepth 20000 in
theorem ggX5_sendCascade_X4_shiftedRound : GoodIn wsX5_sendCascade wsX4_shiftedRound := goodIn_r _ [78, 64, 79, 80, 81, 16, 82, 144, 145, 146, 147, 148, 149, 150] (by decide +kernel) (by decide +kernel)
set_option maxRecDepth 20000 in
theorem gX5_sendCascade_X4_shiftedRound_n152 : GoodIn wsX5_sendCascade (wsX4_shiftedRound) := ggX5_sendCascade_X4_shiftedRound
set_option maxRecDepth 20000 in
theorem ggX5_sendCascade_J6_bitCount_0f7a4 : GoodIn wsX5_sendCascade wsJ6_bitCount_0f7a4 := goodIn_r _ [86, 87, 88, 89] (by decide +kernel) (by decide +kernel)
set_option maxRecDepth 20000 in
theorem gX5_sendCascade_J6_bitCount_0f7a4 : GoodIn wsX5_sendCascade (va_wsS RX5 129 yJ6_bitCount_0f7a4 wsJ6_bitCount_0f7a4) := goodIn_app (goodIn_of _ (by decide +kernel)) ggX5_sendCascade_J6_bitCount_0f7a4
set_option maxRecDepth 20000 in
theorem ggX5_sendCascade_X5_readAgain : GoodIn wsX5_sendCascade wsX5_readAgain := goodIn_r _ [93, 14, 2, 9, 94, 95, 96, 97, 98, 99, 100, 101, 102, 103, 104, 6, 105, 106, 84, 85, 86, 87, 88, 89, 107, 30, 108, 109, 48, 34, 33, 110, 111, 112, 113, 25, 114, 37, 115, 116, 117, 118, 119, 49, 120, 121, 122, 123, 124, 125, 126, 127, 128, 129, 130, 131, 132, 133, 134, 135, 136, 137, 138, 139, 140, 141, 142, 143, 144, 145, 146, 147, 148, 149, 150, 151, 152, 154, 155, 156, 157, 158, 159, 160, 161] (by decide +kernel) (by decide +kernel)
set_option maxRecDepth 20000 in
theorem gX5_sendCascade_X5_readAgain : GoodIn wsX5_sendCascade (wsV RX5 52 RX5 yX5_readAgain wsX5_readAgain) := goodIn_app (goodIn_of _ (by decide +kernel)) ggX5_sendCascade_X5_readAgain
theorem dX5_sendCascade_0 : decode cX5_sendCascade 0 = .ok (.aload_n 0, 1) := by decide +kernel
theorem dX5_sendCascade_1 : decode cX5_sendCascade 1 = .ok (.invokevirtual 149, 3) := by decide +kernel
theorem dX5_sendCascade_4 : decode cX5_sendCascade 4 = .ok (.istore_n 1, 1) := by decide +kernel
theorem dX5_sendCascade_5 : decode cX5_sendCascade 5 = .ok (.iload_n 1, 1) := by decide +kernel
theorem dX5_sendCascade_6 : decode cX5_sendCascade 6 = .ok (.iconst (-1), 1) := by decide +kernel
theorem dX5_sendCascade_7 : decode cX5_sendCascade 7 = .ok (.if_icmp .ne 7, 3) := by decide +kernel
theorem dX5_sendCascade_10 : decode cX5_sendCascade 10 = .ok (.sipush (-1002), 3) := by decide +kernel
theorem dX5_sendCascade_13 : decode cX5_sendCascade 13 = .ok (.ireturn, 1) := by decide +kernel
theorem dX5_sendCascade_14 : decode cX5_sendCascade 14 = .ok (.aload_n 0, 1) := by decide +kernel
theorem dX5_sendCascade_15 : decode cX5_sendCascade 15 = .ok (.getfield 19, 3) := by decide +kernel
theorem dX5_sendCascade_18 : decode cX5_sendCascade 18 = .ok (.aload_n 0, 1) := by decide +kernel
theorem dX5_sendCascade_19 : decode cX5_sendCascade 19 = .ok (.getfield 10, 3) := by decide +kernel
theorem dX5_sendCascade_22 : decode cX5_sendCascade 22 = .ok (.invokevirtual 61, 3) := by decide +kernel
theorem dX5_sendCascade_25 : decode cX5_sendCascade 25 = .ok (.aload_n 0, 1) := by decide +kernel
theorem dX5_sendCascade_26 : decode cX5_sendCascade 26 = .ok (.getfield 10, 3) := by decide +kernel
theorem dX5_sendCascade_29 : decode cX5_sendCascade 29 = .ok (.iload_n 1, 1) := by decide +kernel
theorem dX5_sendCascade_30 : decode cX5_sendCascade 30 = .ok (.putfield 122, 3) := by decide +kernel
theorem dX5_sendCascade_33 : decode cX5_sendCascade 33 = .ok (.iconst 0, 1) := by decide +kernel
theorem dX5_sendCascade_34 : decode cX5_sendCascade 34 = .ok (.istore_n 2, 1) := by decide +kernel
theorem dX5_sendCascade_35 : decode cX5_sendCascade 35 = .ok (.iconst 0, 1) := by decide +kernel
theorem dX5_sendCascade_36 : decode cX5_sendCascade 36 = .ok (.istore_n 3, 1) := by decide +kernel
theorem dX5_sendCascade_37 : decode cX5_sendCascade 37 = .ok (.iload_n 3, 1) := by decide +kernel
theorem dX5_sendCascade_38 : decode cX5_sendCascade 38 = .ok (.aload_n 0, 1) := by decide +kernel
theorem dX5_sendCascade_39 : decode cX5_sendCascade 39 = .ok (.getfield 10, 3) := by decide +kernel
theorem dX5_sendCascade_42 : decode cX5_sendCascade 42 = .ok (.getfield 55, 3) := by decide +kernel
theorem dX5_sendCascade_45 : decode cX5_sendCascade 45 = .ok (.if_icmp .ge 60, 3) := by decide +kernel
theorem dX5_sendCascade_48 : decode cX5_sendCascade 48 = .ok (.aload_n 0, 1) := by decide +kernel
theorem dX5_sendCascade_49 : decode cX5_sendCascade 49 = .ok (.iload_n 1, 1) := by decide +kernel
theorem dX5_sendCascade_50 : decode cX5_sendCascade 50 = .ok (.iload_n 3, 1) := by decide +kernel
theorem dX5_sendCascade_51 : decode cX5_sendCascade 51 = .ok (.invokevirtual 125, 3) := by decide +kernel
theorem dX5_sendCascade_54 : decode cX5_sendCascade 54 = .ok (.istore 4, 2) := by decide +kernel
theorem dX5_sendCascade_56 : decode cX5_sendCascade 56 = .ok (.aload_n 0, 1) := by decide +kernel
theorem dX5_sendCascade_57 : decode cX5_sendCascade 57 = .ok (.getfield 10, 3) := by decide +kernel
theorem dX5_sendCascade_60 : decode cX5_sendCascade 60 = .ok (.aload_n 0, 1) := by decide +kernel
theorem dX5_sendCascade_61 : decode cX5_sendCascade 61 = .ok (.getfield 10, 3) := by decide +kernel
theorem dX5_sendCascade_64 : decode cX5_sendCascade 64 = .ok (.getfield 128, 3) := by decide +kernel
theorem dX5_sendCascade_67 : decode cX5_sendCascade 67 = .ok (.iload_n 3, 1) := by decide +kernel
theorem dX5_sendCascade_68 : decode cX5_sendCascade 68 = .ok (.iaload, 1) := by decide +kernel
theorem dX5_sendCascade_69 : decode cX5_sendCascade 69 = .ok (.iload 4, 2) := by decide +kernel
theorem dX5_sendCascade_71 : decode cX5_sendCascade 71 = .ok (.ixor, 1) := by decide +kernel
theorem dX5_sendCascade_72 : decode cX5_sendCascade 72 = .ok (.invokevirtual 152, 3) := by decide +kernel
theorem dX5_sendCascade_75 : decode cX5_sendCascade 75 = .ok (.istore 5, 2) := by decide +kernel
theorem dX5_sendCascade_77 : decode cX5_sendCascade 77 = .ok (.aload_n 0, 1) := by decide +kernel
theorem dX5_sendCascade_78 : decode cX5_sendCascade 78 = .ok (.getfield 10, 3) := by decide +kernel
theorem dX5_sendCascade_81 : decode cX5_sendCascade 81 = .ok (.getfield 128, 3) := by decide +kernel
theorem dX5_sendCascade_84 : decode cX5_sendCascade 84 = .ok (.iload_n 3, 1) := by decide +kernel
theorem dX5_sendCascade_85 : decode cX5_sendCascade 85 = .ok (.iload 4, 2) := by decide +kernel
theorem dX5_sendCascade_87 : decode cX5_sendCascade 87 = .ok (.iload 5, 2) := by decide +kernel
theorem dX5_sendCascade_89 : decode cX5_sendCascade 89 = .ok (.ixor, 1) := by decide +kernel
theorem dX5_sendCascade_90 : decode cX5_sendCascade 90 = .ok (.iastore, 1) := by decide +kernel
theorem dX5_sendCascade_91 : decode cX5_sendCascade 91 = .ok (.iload_n 2, 1) := by decide +kernel
theorem dX5_sendCascade_92 : decode cX5_sendCascade 92 = .ok (.iload 5, 2) := by decide +kernel
theorem dX5_sendCascade_94 : decode cX5_sendCascade 94 = .ok (.invokestatic 129, 3) := by decide +kernel
theorem dX5_sendCascade_97 : decode cX5_sendCascade 97 = .ok (.iadd, 1) := by decide +kernel
theorem dX5_sendCascade_98 : decode cX5_sendCascade 98 = .ok (.istore_n 2, 1) := by decide +kernel
theorem dX5_sendCascade_99 : decode cX5_sendCascade 99 = .ok (.iinc 3 1, 3) := by decide +kernel
theorem dX5_sendCascade_102 : decode cX5_sendCascade 102 = .ok (.goto (-65), 3) := by decide +kernel
theorem dX5_sendCascade_105 : decode cX5_sendCascade 105 = .ok (.aload_n 0, 1) := by decide +kernel
theorem dX5_sendCascade_106 : decode cX5_sendCascade 106 = .ok (.invokevirtual 52, 3) := by decide +kernel
theorem dX5_sendCascade_109 : decode cX5_sendCascade 109 = .ok (.iload_n 2, 1) := by decide +kernel
theorem dX5_sendCascade_110 : decode cX5_sendCascade 110 = .ok (.ireturn, 1) := by decide +kernel
set_option maxRecDepth 20000 in
theorem ggX5_received_X5_isBlock : GoodIn wsX5_received wsX5_isBlock := goodIn_r _ [6, 1, 7, 8, 9, 10, 11, 12, 13, 14, 15, 16, 17, 18, 19, 20] (by decide +kernel) (by decide +kernel)
set_option maxRecDepth 20000 in
theorem gX5_received_X5_isBlock : GoodIn wsX5_received (wsV RX5 111 RX5 yX5_isBlock wsX5_isBlock) := goodIn_app (goodIn_of _ (by decide +kernel)) ggX5_received_X5_isBlock
theorem dX5_received_0 : decode cX5_received 0 = .ok (.aload_n 0, 1) := by decide +kernel
theorem dX5_received_1 : decode cX5_received 1 = .ok (.iload_n 1, 1) := by decide +kernel
theorem dX5_received_2 : decode cX5_received 2 = .ok (.invokevirtual 111, 3) := by decide +kernel
theorem dX5_received_5 : decode cX5_received 5 = .ok (.ifCond .ne 7, 3) := by decide +kernel
theorem dX5_received_8 : decode cX5_received 8 = .ok (.sipush (-1001), 3) := by decide +kernel
theorem dX5_received_11 : decode cX5_received 11 = .ok (.ireturn, 1) := by decide +kernel
theorem dX5_received_12 : decode cX5_received 12 = .ok (.aload_n 0, 1) := by decide +kernel
theorem dX5_received_13 : decode cX5_received 13 = .ok (.getfield 10, 3) := by decide +kernel
theorem dX5_received_16 : decode cX5_received 16 = .ok (.getfield 138, 3) := by decide +kernel
theorem dX5_received_19 : decode cX5_received 19 = .ok (.iload_n 1, 1) := by decide +kernel
theorem dX5_received_20 : decode cX5_received 20 = .ok (.baload, 1) := by decide +kernel
theorem dX5_received_21 : decode cX5_received 21 = .ok (.ifCond .eq 9, 3) := by decide +kernel
theorem dX5_received_24 : decode cX5_received 24 = .ok (.sipush (-1004), 3) := by decide +kernel
theorem dX5_received_27 : decode cX5_received 27 = .ok (.goto 12, 3) := by decide +kernel
theorem dX5_received_30 : decode cX5_received 30 = .ok (.aload_n 0, 1) := by decide +kernel
theorem dX5_received_31 : decode cX5_received 31 = .ok (.getfield 10, 3) := by decide +kernel
theorem dX5_received_34 : decode cX5_received 34 = .ok (.getfield 128, 3) := by decide +kernel
theorem dX5_received_37 : decode cX5_received 37 = .ok (.iload_n 1, 1) := by decide +kernel
theorem dX5_received_38 : decode cX5_received 38 = .ok (.iaload, 1) := by decide +kernel
theorem dX5_received_39 : decode cX5_received 39 = .ok (.ireturn, 1) := by decide +kernel
theorem dX5_sent_0 : decode cX5_sent 0 = .ok (.aload_n 0, 1) := by decide +kernel
theorem dX5_sent_1 : decode cX5_sent 1 = .ok (.getfield 10, 3) := by decide +kernel
theorem dX5_sent_4 : decode cX5_sent 4 = .ok (.getfield 122, 3) := by decide +kernel
theorem dX5_sent_7 : decode cX5_sent 7 = .ok (.ireturn, 1) := by decide +kernel
set_option maxRecDepth 20000 in
theorem ggX5_trial_X4_outerDistance : GoodIn wsX5_trial wsX4_outerDistance := goodIn_r _ [7, 8, 9, 52, 53, 54, 55, 56, 57, 58] (by decide +kernel) (by decide +kernel)
set_option maxRecDepth 20000 in
theorem gX5_trial_X4_outerDistance_n87 : GoodIn wsX5_trial (wsX4_outerDistance) := ggX5_trial_X4_outerDistance
set_option maxRecDepth 20000 in
theorem ggX5_trial_X3_keptBlocks : GoodIn wsX5_trial wsX3_keptBlocks := goodIn_r _ [13, 14, 15, 16, 17, 59, 60, 61, 62, 63, 64, 65, 66] (by decide +kernel) (by decide +kernel)
set_option maxRecDepth 20000 in
theorem gX5_trial_X3_keptBlocks_n173 : GoodIn wsX5_trial (wsX3_keptBlocks) := ggX5_trial_X3_keptBlocks
set_option maxRecDepth 20000 in
theorem ggX5_trial_X4_messages : GoodIn wsX5_trial wsX4_messages := goodIn_r _ [20, 9, 52, 53, 54, 55, 56, 57, 58] (by decide +kernel) (by decide +kernel)
set_option maxRecDepth 20000 in
theorem gX5_trial_X4_messages_n176 : GoodIn wsX5_trial (wsX4_messages) := ggX5_trial_X4_messages
set_option maxRecDepth 20000 in
theorem ggX5_trial_X2_codeword : GoodIn wsX5_trial wsX2_codeword := goodIn_r _ [24, 25, 67] (by decide +kernel) (by decide +kernel)
set_option maxRecDepth 20000 in
theorem gX5_trial_X2_codeword_n114 : GoodIn wsX5_trial (wsX2_codeword) := ggX5_trial_X2_codeword
set_option maxRecDepth 20000 in
theorem ggX5_trial_X5_isResult : GoodIn wsX5_trial wsX5_isResult := goodIn_r _ [30, 2, 1, 31, 11, 32, 33, 34, 14, 35, 22, 36, 37, 38, 39, 40, 41, 42, 43, 44, 4, 5, 6, 7, 8, 9, 45, 46, 47, 48, 49, 50, 51, 59, 60, 61, 62, 63, 64, 65, 66, 52, 53, 54, 55, 56, 57, 58] (by decide +kernel) (by decide +kernel)
set_option maxRecDepth 20000 in
theorem gX5_trial_X5_isResult : GoodIn wsX5_trial (wsV RX5 179 RX5 yX5_isResult wsX5_isResult) := goodIn_app (goodIn_of _ (by decide +kernel)) ggX5_trial_X5_isResult
theorem dX5_trial_0 : decode cX5_trial 0 = .ok (.iload_n 1, 1) := by decide +kernel
theorem dX5_trial_1 : decode cX5_trial 1 = .ok (.ifCond .lt 14, 3) := by decide +kernel
theorem dX5_trial_4 : decode cX5_trial 4 = .ok (.iload_n 1, 1) := by decide +kernel
theorem dX5_trial_5 : decode cX5_trial 5 = .ok (.aload_n 0, 1) := by decide +kernel
theorem dX5_trial_6 : decode cX5_trial 6 = .ok (.getfield 10, 3) := by decide +kernel
theorem dX5_trial_9 : decode cX5_trial 9 = .ok (.invokevirtual 87, 3) := by decide +kernel
theorem dX5_trial_12 : decode cX5_trial 12 = .ok (.if_icmp .lt 7, 3) := by decide +kernel
theorem dX5_trial_15 : decode cX5_trial 15 = .ok (.sipush (-1001), 3) := by decide +kernel
theorem dX5_trial_18 : decode cX5_trial 18 = .ok (.ireturn, 1) := by decide +kernel
theorem dX5_trial_19 : decode cX5_trial 19 = .ok (.aload_n 0, 1) := by decide +kernel
theorem dX5_trial_20 : decode cX5_trial 20 = .ok (.getfield 40, 3) := by decide +kernel
theorem dX5_trial_23 : decode cX5_trial 23 = .ok (.iload_n 1, 1) := by decide +kernel
theorem dX5_trial_24 : decode cX5_trial 24 = .ok (.invokevirtual 173, 3) := by decide +kernel
theorem dX5_trial_27 : decode cX5_trial 27 = .ok (.lstore_n 2, 1) := by decide +kernel
theorem dX5_trial_28 : decode cX5_trial 28 = .ok (.aload_n 0, 1) := by decide +kernel
theorem dX5_trial_29 : decode cX5_trial 29 = .ok (.getfield 10, 3) := by decide +kernel
theorem dX5_trial_32 : decode cX5_trial 32 = .ok (.invokevirtual 176, 3) := by decide +kernel
theorem dX5_trial_35 : decode cX5_trial 35 = .ok (.istore 4, 2) := by decide +kernel
theorem dX5_trial_37 : decode cX5_trial 37 = .ok (.iconst 0, 1) := by decide +kernel
theorem dX5_trial_38 : decode cX5_trial 38 = .ok (.istore 5, 2) := by decide +kernel
theorem dX5_trial_40 : decode cX5_trial 40 = .ok (.iload 5, 2) := by decide +kernel
theorem dX5_trial_42 : decode cX5_trial 42 = .ok (.iload 4, 2) := by decide +kernel
theorem dX5_trial_44 : decode cX5_trial 44 = .ok (.if_icmp .ge 30, 3) := by decide +kernel
theorem dX5_trial_47 : decode cX5_trial 47 = .ok (.aload_n 0, 1) := by decide +kernel
theorem dX5_trial_48 : decode cX5_trial 48 = .ok (.aload_n 0, 1) := by decide +kernel
theorem dX5_trial_49 : decode cX5_trial 49 = .ok (.getfield 33, 3) := by decide +kernel
theorem dX5_trial_52 : decode cX5_trial 52 = .ok (.iload 5, 2) := by decide +kernel
theorem dX5_trial_54 : decode cX5_trial 54 = .ok (.invokevirtual 114, 3) := by decide +kernel
theorem dX5_trial_57 : decode cX5_trial 57 = .ok (.iload_n 1, 1) := by decide +kernel
theorem dX5_trial_58 : decode cX5_trial 58 = .ok (.lload_n 2, 1) := by decide +kernel
theorem dX5_trial_59 : decode cX5_trial 59 = .ok (.invokevirtual 179, 3) := by decide +kernel
theorem dX5_trial_62 : decode cX5_trial 62 = .ok (.ifCond .eq 6, 3) := by decide +kernel
theorem dX5_trial_65 : decode cX5_trial 65 = .ok (.iload 5, 2) := by decide +kernel
theorem dX5_trial_67 : decode cX5_trial 67 = .ok (.ireturn, 1) := by decide +kernel
theorem dX5_trial_68 : decode cX5_trial 68 = .ok (.iinc 5 1, 3) := by decide +kernel
theorem dX5_trial_71 : decode cX5_trial 71 = .ok (.goto (-31), 3) := by decide +kernel
theorem dX5_trial_74 : decode cX5_trial 74 = .ok (.sipush (-1004), 3) := by decide +kernel
theorem dX5_trial_77 : decode cX5_trial 77 = .ok (.ireturn, 1) := by decide +kernel
set_option maxRecDepth 20000 in
theorem ggX5_score_X5_isMessage : GoodIn wsX5_score wsX5_isMessage := goodIn_r _ [7, 8, 9, 10, 11, 12, 13, 34, 35, 36, 37, 38, 39, 40, 41, 42, 43, 44, 45, 46, 47] (by decide +kernel) (by decide +kernel)
set_option maxRecDepth 20000 in
theorem gX5_score_X5_isMessage : GoodIn wsX5_score (wsV RX5 108 RX5 yX5_isMessage wsX5_isMessage) := goodIn_app (goodIn_of _ (by decide +kernel)) ggX5_score_X5_isMessage
set_option maxRecDepth 20000 in
theorem ggX5_score_X2_codeword : GoodIn wsX5_score wsX2_codeword := goodIn_r _ [17, 18, 48] (by decide +kernel) (by decide +kernel)
set_option maxRecDepth 20000 in
theorem gX5_score_X2_codeword_n114 : GoodIn wsX5_score (wsX2_codeword) := ggX5_score_X2_codeword
set_option maxRecDepth 20000 in
theorem ggX5_score_X3_scoreOf : GoodIn wsX5_score wsX3_scoreOf := goodIn_r _ [22, 23, 24, 25, 26, 27, 20, 28, 29, 30, 31, 15, 32, 33, 49, 50, 51, 52, 53, 54, 55, 56] (by decide +kernel) (by decide +kernel)
set_option maxRecDepth 20000 in
theorem gX5_score_X3_scoreOf_n183 : GoodIn wsX5_score (wsX3_scoreOf) := ggX5_score_X3_scoreOf
theorem dX5_score_0 : decode cX5_score 0 = .ok (.aload_n 0, 1) := by decide +kernel
theorem dX5_score_1 : decode cX5_score 1 = .ok (.iload_n 1, 1) := by decide +kernel
theorem dX5_score_2 : decode cX5_score 2 = .ok (.invokevirtual 108, 3) := by decide +kernel
theorem dX5_score_5 : decode cX5_score 5 = .ok (.ifCond .ne 7, 3) := by decide +kernel
theorem dX5_score_8 : decode cX5_score 8 = .ok (.sipush (-1001), 3) := by decide +kernel
theorem dX5_score_11 : decode cX5_score 11 = .ok (.ireturn, 1) := by decide +kernel
theorem dX5_score_12 : decode cX5_score 12 = .ok (.aload_n 0, 1) := by decide +kernel
theorem dX5_score_13 : decode cX5_score 13 = .ok (.getfield 40, 3) := by decide +kernel
theorem dX5_score_16 : decode cX5_score 16 = .ok (.aload_n 0, 1) := by decide +kernel
theorem dX5_score_17 : decode cX5_score 17 = .ok (.getfield 33, 3) := by decide +kernel
theorem dX5_score_20 : decode cX5_score 20 = .ok (.iload_n 1, 1) := by decide +kernel
theorem dX5_score_21 : decode cX5_score 21 = .ok (.invokevirtual 114, 3) := by decide +kernel
theorem dX5_score_24 : decode cX5_score 24 = .ok (.invokevirtual 183, 3) := by decide +kernel
theorem dX5_score_27 : decode cX5_score 27 = .ok (.ireturn, 1) := by decide +kernel
set_option maxRecDepth 20000 in
theorem ggX5_lawful_X5_lawfulMessage : GoodIn wsX5_lawful wsX5_lawfulMessage := goodIn_r _ [5, 6, 7, 8, 9, 10, 11, 4, 12, 13, 14, 15, 16, 17, 18, 19, 20, 21, 22, 23, 24, 25, 26, 27, 28, 29, 30, 31, 32, 33, 34, 35, 36, 37, 38, 39, 40, 41, 42, 43, 44, 45, 46, 47, 48, 49, 50, 51, 52, 53, 54, 55, 56, 57, 58, 59, 60, 61, 62, 63, 64, 65, 66, 67, 68, 69, 70, 71, 72, 73, 74] (by decide +kernel) (by decide +kernel)
set_option maxRecDepth 20000 in
theorem gX5_lawful_X5_lawfulMessage : GoodIn wsX5_lawful (wsV RX5 149 RX5 yX5_lawfulMessage wsX5_lawfulMessage) := goodIn_app (goodIn_of _ (by decide +kernel)) ggX5_lawful_X5_lawfulMessage
theorem dX5_lawful_0 : decode cX5_lawful 0 = .ok (.aload_n 0, 1) := by decide +kernel
theorem dX5_lawful_1 : decode cX5_lawful 1 = .ok (.invokevirtual 149, 3) := by decide +kernel
theorem dX5_lawful_4 : decode cX5_lawful 4 = .ok (.iconst (-1), 1) := by decide +kernel
theorem dX5_lawful_5 : decode cX5_lawful 5 = .ok (.if_icmp .ne 7, 3) := by decide +kernel
theorem dX5_lawful_8 : decode cX5_lawful 8 = .ok (.iconst 0, 1) := by decide +kernel
theorem dX5_lawful_9 : decode cX5_lawful 9 = .ok (.goto 4, 3) := by decide +kernel
theorem dX5_lawful_12 : decode cX5_lawful 12 = .ok (.iconst 1, 1) := by decide +kernel
theorem dX5_lawful_13 : decode cX5_lawful 13 = .ok (.ireturn, 1) := by decide +kernel
set_option maxRecDepth 20000 in
theorem ggX5_decode_X5_lawfulMessage : GoodIn wsX5_decode wsX5_lawfulMessage := goodIn_r _ [5, 6, 7, 8, 9, 10, 11, 4, 12, 13, 14, 15, 16, 17, 18, 19, 20, 21, 22, 23, 24, 25, 26, 27, 28, 29, 30, 31, 32, 33, 34, 35, 36, 37, 38, 39, 40, 41, 42, 43, 44, 45, 46, 47, 48, 49, 50, 51, 52, 53, 54, 55, 56, 57, 58, 59, 60, 61, 62, 63, 64, 65, 66, 67, 68, 69, 70, 71, 72, 73, 74] (by decide +kernel) (by decide +kernel)
set_option maxRecDepth 20000 in
theorem gX5_decode_X5_lawfulMessage : GoodIn wsX5_decode (wsV RX5 149 RX5 yX5_lawfulMessage wsX5_lawfulMessage) := goodIn_app (goodIn_of _ (by decide +kernel)) ggX5_decode_X5_lawfulMessage
theorem dX5_decode_0 : decode cX5_decode 0 = .ok (.aload_n 0, 1) := by decide +kernel
theorem dX5_decode_1 : decode cX5_decode 1 = .ok (.invokevirtual 149, 3) := by decide +kernel
theorem dX5_decode_4 : decode cX5_decode 4 = .ok (.istore_n 1, 1) := by decide +kernel
theorem dX5_decode_5 : decode cX5_decode 5 = .ok (.iload_n 1, 1) := by decide +kernel
theorem dX5_decode_6 : decode cX5_decode 6 = .ok (.iconst (-1), 1) := by decide +kernel
theorem dX5_decode_7 : decode cX5_decode 7 = .ok (.if_icmp .ne 9, 3) := by decide +kernel
theorem dX5_decode_10 : decode cX5_decode 10 = .ok (.sipush (-1004), 3) := by decide +kernel
theorem dX5_decode_13 : decode cX5_decode 13 = .ok (.goto 4, 3) := by decide +kernel
theorem dX5_decode_16 : decode cX5_decode 16 = .ok (.iload_n 1, 1) := by decide +kernel
theorem dX5_decode_17 : decode cX5_decode 17 = .ok (.ireturn, 1) := by decide +kernel
set_option maxRecDepth 20000 in
theorem ggX5_decidingTrial_X5_lawfulMessage : GoodIn wsX5_decidingTrial wsX5_lawfulMessage := goodIn_r _ [8, 1, 2, 3, 9, 10, 11, 7, 12, 13, 14, 15, 16, 17, 18, 19, 20, 21, 22, 23, 24, 25, 26, 27, 28, 29, 30, 31, 32, 33, 34, 35, 36, 37, 38, 39, 40, 41, 42, 43, 44, 45, 46, 47, 48, 49, 59, 60, 61, 62, 63, 64, 65, 66, 67, 68, 69, 70, 71, 72, 73, 74, 75, 76, 77, 78, 79, 80, 81, 82, 83] (by decide +kernel) (by decide +kernel)
set_option maxRecDepth 20000 in
theorem gX5_decidingTrial_X5_lawfulMessage : GoodIn wsX5_decidingTrial (wsV RX5 149 RX5 yX5_lawfulMessage wsX5_lawfulMessage) := goodIn_app (goodIn_of _ (by decide +kernel)) ggX5_decidingTrial_X5_lawfulMessage
set_option maxRecDepth 20000 in
theorem ggX5_decidingTrial_X4_outerDistance : GoodIn wsX5_decidingTrial wsX4_outerDistance := goodIn_r _ [17, 18, 19, 68, 69, 70, 71, 72, 73, 74] (by decide +kernel) (by decide +kernel)
set_option maxRecDepth 20000 in
theorem gX5_decidingTrial_X4_outerDistance_n87 : GoodIn wsX5_decidingTrial (wsX4_outerDistance) := ggX5_decidingTrial_X4_outerDistance
set_option maxRecDepth 20000 in
theorem ggX5_decidingTrial_X2_codeword : GoodIn wsX5_decidingTrial wsX2_codeword := goodIn_r _ [26, 27, 75] (by decide +kernel) (by decide +kernel)
set_option maxRecDepth 20000 in
theorem gX5_decidingTrial_X2_codeword_n114 : GoodIn wsX5_decidingTrial (wsX2_codeword) := ggX5_decidingTrial_X2_codeword
set_option maxRecDepth 20000 in
theorem ggX5_decidingTrial_X3_keptBlocks : GoodIn wsX5_decidingTrial wsX3_keptBlocks := goodIn_r _ [52, 33, 47, 53, 54, 76, 77, 78, 79, 80, 81, 82, 83] (by decide +kernel) (by decide +kernel)
set_option maxRecDepth 20000 in
theorem gX5_decidingTrial_X3_keptBlocks_n173 : GoodIn wsX5_decidingTrial (wsX3_keptBlocks) := ggX5_decidingTrial_X3_keptBlocks
set_option maxRecDepth 20000 in
theorem ggX5_decidingTrial_X5_isResult : GoodIn wsX5_decidingTrial wsX5_isResult := goodIn_r _ [58, 3, 1, 28, 29, 30, 31, 32, 33, 34, 24, 35, 36, 37, 38, 39, 40, 41, 42, 43, 14, 15, 16, 17, 18, 19, 59, 60, 61, 62, 63, 64, 65, 76, 77, 78, 79, 80, 81, 82, 83, 68, 69, 70, 71, 72, 73, 74] (by decide +kernel) (by decide +kernel)
set_option maxRecDepth 20000 in
theorem gX5_decidingTrial_X5_isResult : GoodIn wsX5_decidingTrial (wsV RX5 179 RX5 yX5_isResult wsX5_isResult) := goodIn_app (goodIn_of _ (by decide +kernel)) ggX5_decidingTrial_X5_isResult
theorem dX5_decidingTrial_0 : decode cX5_decidingTrial 0 = .ok (.aload_n 0, 1) := by decide +kernel
theorem dX5_decidingTrial_1 : decode cX5_decidingTrial 1 = .ok (.invokevirtual 149, 3) := by decide +kernel
theorem dX5_decidingTrial_4 : decode cX5_decidingTrial 4 = .ok (.istore_n 1, 1) := by decide +kernel
theorem dX5_decidingTrial_5 : decode cX5_decidingTrial 5 = .ok (.iload_n 1, 1) := by decide +kernel
theorem dX5_decidingTrial_6 : decode cX5_decidingTrial 6 = .ok (.iconst (-1), 1) := by decide +kernel
theorem dX5_decidingTrial_7 : decode cX5_decidingTrial 7 = .ok (.if_icmp .ne 7, 3) := by decide +kernel
theorem dX5_decidingTrial_10 : decode cX5_decidingTrial 10 = .ok (.sipush (-1004), 3) := by decide +kernel
theorem dX5_decidingTrial_13 : decode cX5_decidingTrial 13 = .ok (.ireturn, 1) := by decide +kernel
theorem dX5_decidingTrial_14 : decode cX5_decidingTrial 14 = .ok (.iconst 0, 1) := by decide +kernel
theorem dX5_decidingTrial_15 : decode cX5_decidingTrial 15 = .ok (.istore_n 2, 1) := by decide +kernel
theorem dX5_decidingTrial_16 : decode cX5_decidingTrial 16 = .ok (.iload_n 2, 1) := by decide +kernel
theorem dX5_decidingTrial_17 : decode cX5_decidingTrial 17 = .ok (.aload_n 0, 1) := by decide +kernel
theorem dX5_decidingTrial_18 : decode cX5_decidingTrial 18 = .ok (.getfield 10, 3) := by decide +kernel
theorem dX5_decidingTrial_21 : decode cX5_decidingTrial 21 = .ok (.invokevirtual 87, 3) := by decide +kernel
theorem dX5_decidingTrial_24 : decode cX5_decidingTrial 24 = .ok (.if_icmp .ge 35, 3) := by decide +kernel
theorem dX5_decidingTrial_27 : decode cX5_decidingTrial 27 = .ok (.aload_n 0, 1) := by decide +kernel
theorem dX5_decidingTrial_28 : decode cX5_decidingTrial 28 = .ok (.aload_n 0, 1) := by decide +kernel
theorem dX5_decidingTrial_29 : decode cX5_decidingTrial 29 = .ok (.getfield 33, 3) := by decide +kernel
theorem dX5_decidingTrial_32 : decode cX5_decidingTrial 32 = .ok (.iload_n 1, 1) := by decide +kernel
theorem dX5_decidingTrial_33 : decode cX5_decidingTrial 33 = .ok (.invokevirtual 114, 3) := by decide +kernel
theorem dX5_decidingTrial_36 : decode cX5_decidingTrial 36 = .ok (.iload_n 2, 1) := by decide +kernel
theorem dX5_decidingTrial_37 : decode cX5_decidingTrial 37 = .ok (.aload_n 0, 1) := by decide +kernel
theorem dX5_decidingTrial_38 : decode cX5_decidingTrial 38 = .ok (.getfield 40, 3) := by decide +kernel
theorem dX5_decidingTrial_41 : decode cX5_decidingTrial 41 = .ok (.iload_n 2, 1) := by decide +kernel
theorem dX5_decidingTrial_42 : decode cX5_decidingTrial 42 = .ok (.invokevirtual 173, 3) := by decide +kernel
theorem dX5_decidingTrial_45 : decode cX5_decidingTrial 45 = .ok (.invokevirtual 179, 3) := by decide +kernel
theorem dX5_decidingTrial_48 : decode cX5_decidingTrial 48 = .ok (.ifCond .eq 5, 3) := by decide +kernel
theorem dX5_decidingTrial_51 : decode cX5_decidingTrial 51 = .ok (.iload_n 2, 1) := by decide +kernel
theorem dX5_decidingTrial_52 : decode cX5_decidingTrial 52 = .ok (.ireturn, 1) := by decide +kernel
theorem dX5_decidingTrial_53 : decode cX5_decidingTrial 53 = .ok (.iinc 2 1, 3) := by decide +kernel
theorem dX5_decidingTrial_56 : decode cX5_decidingTrial 56 = .ok (.goto (-40), 3) := by decide +kernel
theorem dX5_decidingTrial_59 : decode cX5_decidingTrial 59 = .ok (.sipush (-1004), 3) := by decide +kernel
theorem dX5_decidingTrial_62 : decode cX5_decidingTrial 62 = .ok (.ireturn, 1) := by decide +kernel
set_option maxRecDepth 20000 in
theorem ggX5_margin_X5_lawfulMessage : GoodIn wsX5_margin wsX5_lawfulMessage := goodIn_r _ [7, 8, 2, 1, 9, 10, 11, 6, 12, 13, 14, 15, 16, 17, 18, 19, 20, 21, 22, 23, 24, 25, 26, 27, 28, 29, 30, 31, 32, 33, 34, 35, 36, 37, 38, 39, 40, 41, 42, 43, 44, 45, 46, 47, 48, 49, 50, 51, 52, 53, 54, 55, 56, 57, 58, 59, 60, 61, 62, 63, 64, 65, 66, 67, 68, 69, 70, 71, 72, 73, 74] (by decide +kernel) (by decide +kernel)
set_option maxRecDepth 20000 in
theorem gX5_margin_X5_lawfulMessage : GoodIn wsX5_margin (wsV RX5 149 RX5 yX5_lawfulMessage wsX5_lawfulMessage) := goodIn_app (goodIn_of _ (by decide +kernel)) ggX5_margin_X5_lawfulMessage
set_option maxRecDepth 20000 in
theorem ggX5_margin_X2_codeword : GoodIn wsX5_margin wsX2_codeword := goodIn_r _ [26, 27, 66] (by decide +kernel) (by decide +kernel)
set_option maxRecDepth 20000 in
theorem gX5_margin_X2_codeword_n114 : GoodIn wsX5_margin (wsX2_codeword) := ggX5_margin_X2_codeword
set_option maxRecDepth 20000 in
theorem ggX5_margin_X3_scoreOf : GoodIn wsX5_margin wsX3_scoreOf := goodIn_r _ [46, 47, 48, 49, 28, 30, 29, 31, 32, 33, 34, 24, 35, 36, 67, 68, 69, 70, 71, 72, 73, 74] (by decide +kernel) (by decide +kernel)
set_option maxRecDepth 20000 in
theorem gX5_margin_X3_scoreOf_n183 : GoodIn wsX5_margin (wsX3_scoreOf) := ggX5_margin_X3_scoreOf
set_option maxRecDepth 20000 in
theorem ggX5_margin_X5_lawBound : GoodIn wsX5_margin wsX5_lawBound := goodIn_r _ [12, 13, 8, 14, 15, 16, 17, 18, 19, 50, 51, 52, 53, 54, 55, 56, 57, 58, 59, 60, 61, 62, 63, 64, 65] (by decide +kernel) (by decide +kernel)
set_option maxRecDepth 20000 in
theorem gX5_margin_X5_lawBound : GoodIn wsX5_margin (wsV RX5 187 RX5 yX5_lawBound wsX5_lawBound) := goodIn_app (goodIn_of _ (by decide +kernel)) ggX5_margin_X5_lawBound
theorem dX5_margin_0 : decode cX5_margin 0 = .ok (.aload_n 0, 1) := by decide +kernel
theorem dX5_margin_1 : decode cX5_margin 1 = .ok (.invokevirtual 149, 3) := by decide +kernel
theorem dX5_margin_4 : decode cX5_margin 4 = .ok (.istore_n 1, 1) := by decide +kernel
theorem dX5_margin_5 : decode cX5_margin 5 = .ok (.iload_n 1, 1) := by decide +kernel
theorem dX5_margin_6 : decode cX5_margin 6 = .ok (.iconst (-1), 1) := by decide +kernel
theorem dX5_margin_7 : decode cX5_margin 7 = .ok (.if_icmp .ne 7, 3) := by decide +kernel
theorem dX5_margin_10 : decode cX5_margin 10 = .ok (.sipush (-1004), 3) := by decide +kernel
theorem dX5_margin_13 : decode cX5_margin 13 = .ok (.ireturn, 1) := by decide +kernel
theorem dX5_margin_14 : decode cX5_margin 14 = .ok (.aload_n 0, 1) := by decide +kernel
theorem dX5_margin_15 : decode cX5_margin 15 = .ok (.getfield 40, 3) := by decide +kernel
theorem dX5_margin_18 : decode cX5_margin 18 = .ok (.aload_n 0, 1) := by decide +kernel
theorem dX5_margin_19 : decode cX5_margin 19 = .ok (.getfield 33, 3) := by decide +kernel
theorem dX5_margin_22 : decode cX5_margin 22 = .ok (.iload_n 1, 1) := by decide +kernel
theorem dX5_margin_23 : decode cX5_margin 23 = .ok (.invokevirtual 114, 3) := by decide +kernel
theorem dX5_margin_26 : decode cX5_margin 26 = .ok (.invokevirtual 183, 3) := by decide +kernel
theorem dX5_margin_29 : decode cX5_margin 29 = .ok (.aload_n 0, 1) := by decide +kernel
theorem dX5_margin_30 : decode cX5_margin 30 = .ok (.invokevirtual 187, 3) := by decide +kernel
theorem dX5_margin_33 : decode cX5_margin 33 = .ok (.isub, 1) := by decide +kernel
theorem dX5_margin_34 : decode cX5_margin 34 = .ok (.ireturn, 1) := by decide +kernel
set_option maxRecDepth 20000 in
theorem ggX5_wastedTrials_X4_outerDistance : GoodIn wsX5_wastedTrials wsX4_outerDistance := goodIn_r _ [7, 8, 9, 66, 67, 68, 69, 70, 71, 72] (by decide +kernel) (by decide +kernel)
set_option maxRecDepth 20000 in
theorem gX5_wastedTrials_X4_outerDistance_n87 : GoodIn wsX5_wastedTrials (wsX4_outerDistance) := ggX5_wastedTrials_X4_outerDistance
set_option maxRecDepth 20000 in
theorem ggX5_wastedTrials_X5_lawfulMessage : GoodIn wsX5_wastedTrials wsX5_lawfulMessage := goodIn_r _ [14, 1, 2, 3, 15, 16, 17, 13, 18, 19, 4, 5, 6, 7, 8, 9, 20, 21, 22, 23, 24, 25, 26, 27, 28, 29, 30, 31, 32, 33, 34, 35, 36, 37, 38, 39, 40, 41, 42, 43, 44, 45, 46, 47, 48, 49, 59, 60, 61, 62, 63, 64, 65, 73, 74, 66, 67, 68, 69, 70, 71, 72, 75, 76, 77, 78, 79, 80, 81, 82, 83] (by decide +kernel) (by decide +kernel)
set_option maxRecDepth 20000 in
theorem gX5_wastedTrials_X5_lawfulMessage : GoodIn wsX5_wastedTrials (wsV RX5 149 RX5 yX5_lawfulMessage wsX5_lawfulMessage) := goodIn_app (goodIn_of _ (by decide +kernel)) ggX5_wastedTrials_X5_lawfulMessage
set_option maxRecDepth 20000 in
theorem ggX5_wastedTrials_X2_codeword : GoodIn wsX5_wastedTrials wsX2_codeword := goodIn_r _ [26, 27, 75] (by decide +kernel) (by decide +kernel)
set_option maxRecDepth 20000 in
theorem gX5_wastedTrials_X2_codeword_n114 : GoodIn wsX5_wastedTrials (wsX2_codeword) := ggX5_wastedTrials_X2_codeword
set_option maxRecDepth 20000 in
theorem ggX5_wastedTrials_X3_keptBlocks : GoodIn wsX5_wastedTrials wsX3_keptBlocks := goodIn_r _ [52, 33, 47, 53, 54, 76, 77, 78, 79, 80, 81, 82, 83] (by decide +kernel) (by decide +kernel)
set_option maxRecDepth 20000 in
theorem gX5_wastedTrials_X3_keptBlocks_n173 : GoodIn wsX5_wastedTrials (wsX3_keptBlocks) := ggX5_wastedTrials_X3_keptBlocks
set_option maxRecDepth 20000 in
theorem ggX5_wastedTrials_X5_isResult : GoodIn wsX5_wastedTrials wsX5_isResult := goodIn_r _ [58, 3, 1, 28, 29, 30, 31, 32, 33, 34, 24, 35, 36, 37, 38, 39, 40, 41, 42, 43, 4, 5, 6, 7, 8, 9, 59, 60, 61, 62, 63, 64, 65, 76, 77, 78, 79, 80, 81, 82, 83, 66, 67, 68, 69, 70, 71, 72] (by decide +kernel) (by decide +kernel)
set_option maxRecDepth 20000 in
theorem gX5_wastedTrials_X5_isResult : GoodIn wsX5_wastedTrials (wsV RX5 179 RX5 yX5_isResult wsX5_isResult) := goodIn_app (goodIn_of _ (by decide +kernel)) ggX5_wastedTrials_X5_isResult
theorem dX5_wastedTrials_0 : decode cX5_wastedTrials 0 = .ok (.aload_n 0, 1) := by decide +kernel
theorem dX5_wastedTrials_1 : decode cX5_wastedTrials 1 = .ok (.getfield 10, 3) := by decide +kernel
theorem dX5_wastedTrials_4 : decode cX5_wastedTrials 4 = .ok (.invokevirtual 87, 3) := by decide +kernel
theorem dX5_wastedTrials_7 : decode cX5_wastedTrials 7 = .ok (.istore_n 1, 1) := by decide +kernel
theorem dX5_wastedTrials_8 : decode cX5_wastedTrials 8 = .ok (.aload_n 0, 1) := by decide +kernel
theorem dX5_wastedTrials_9 : decode cX5_wastedTrials 9 = .ok (.invokevirtual 149, 3) := by decide +kernel
theorem dX5_wastedTrials_12 : decode cX5_wastedTrials 12 = .ok (.istore_n 2, 1) := by decide +kernel
theorem dX5_wastedTrials_13 : decode cX5_wastedTrials 13 = .ok (.iload_n 2, 1) := by decide +kernel
theorem dX5_wastedTrials_14 : decode cX5_wastedTrials 14 = .ok (.iconst (-1), 1) := by decide +kernel
theorem dX5_wastedTrials_15 : decode cX5_wastedTrials 15 = .ok (.if_icmp .ne 5, 3) := by decide +kernel
theorem dX5_wastedTrials_18 : decode cX5_wastedTrials 18 = .ok (.iload_n 1, 1) := by decide +kernel
theorem dX5_wastedTrials_19 : decode cX5_wastedTrials 19 = .ok (.ireturn, 1) := by decide +kernel
theorem dX5_wastedTrials_20 : decode cX5_wastedTrials 20 = .ok (.iconst 0, 1) := by decide +kernel
theorem dX5_wastedTrials_21 : decode cX5_wastedTrials 21 = .ok (.istore_n 3, 1) := by decide +kernel
theorem dX5_wastedTrials_22 : decode cX5_wastedTrials 22 = .ok (.iconst 0, 1) := by decide +kernel
theorem dX5_wastedTrials_23 : decode cX5_wastedTrials 23 = .ok (.istore 4, 2) := by decide +kernel
theorem dX5_wastedTrials_25 : decode cX5_wastedTrials 25 = .ok (.iload 4, 2) := by decide +kernel
theorem dX5_wastedTrials_27 : decode cX5_wastedTrials 27 = .ok (.iload_n 1, 1) := by decide +kernel
theorem dX5_wastedTrials_28 : decode cX5_wastedTrials 28 = .ok (.if_icmp .ge 38, 3) := by decide +kernel
theorem dX5_wastedTrials_31 : decode cX5_wastedTrials 31 = .ok (.aload_n 0, 1) := by decide +kernel
theorem dX5_wastedTrials_32 : decode cX5_wastedTrials 32 = .ok (.aload_n 0, 1) := by decide +kernel
theorem dX5_wastedTrials_33 : decode cX5_wastedTrials 33 = .ok (.getfield 33, 3) := by decide +kernel
theorem dX5_wastedTrials_36 : decode cX5_wastedTrials 36 = .ok (.iload_n 2, 1) := by decide +kernel
theorem dX5_wastedTrials_37 : decode cX5_wastedTrials 37 = .ok (.invokevirtual 114, 3) := by decide +kernel
theorem dX5_wastedTrials_40 : decode cX5_wastedTrials 40 = .ok (.iload 4, 2) := by decide +kernel
theorem dX5_wastedTrials_42 : decode cX5_wastedTrials 42 = .ok (.aload_n 0, 1) := by decide +kernel
theorem dX5_wastedTrials_43 : decode cX5_wastedTrials 43 = .ok (.getfield 40, 3) := by decide +kernel
theorem dX5_wastedTrials_46 : decode cX5_wastedTrials 46 = .ok (.iload 4, 2) := by decide +kernel
theorem dX5_wastedTrials_48 : decode cX5_wastedTrials 48 = .ok (.invokevirtual 173, 3) := by decide +kernel
theorem dX5_wastedTrials_51 : decode cX5_wastedTrials 51 = .ok (.invokevirtual 179, 3) := by decide +kernel
theorem dX5_wastedTrials_54 : decode cX5_wastedTrials 54 = .ok (.ifCond .ne 6, 3) := by decide +kernel
theorem dX5_wastedTrials_57 : decode cX5_wastedTrials 57 = .ok (.iinc 3 1, 3) := by decide +kernel
theorem dX5_wastedTrials_60 : decode cX5_wastedTrials 60 = .ok (.iinc 4 1, 3) := by decide +kernel
theorem dX5_wastedTrials_63 : decode cX5_wastedTrials 63 = .ok (.goto (-38), 3) := by decide +kernel
theorem dX5_wastedTrials_66 : decode cX5_wastedTrials 66 = .ok (.iload_n 3, 1) := by decide +kernel
theorem dX5_wastedTrials_67 : decode cX5_wastedTrials 67 = .ok (.ireturn, 1) := by decide +kernel
set_option maxRecDepth 20000 in
theorem ggX5_isGuaranteed_X5_wrongBits : GoodIn wsX5_isGuaranteed wsX5_wrongBits := goodIn_r _ [7, 2, 8, 9, 10, 6, 11, 1, 12, 13, 14, 15, 16, 17, 18, 19, 20, 21, 22, 23, 24, 25, 26, 27, 38, 39, 40, 41, 42, 43, 44, 47, 48, 49, 50, 51, 52, 53, 45, 46, 54] (by decide +kernel) (by decide +kernel)
set_option maxRecDepth 20000 in
theorem gX5_isGuaranteed_X5_wrongBits : GoodIn wsX5_isGuaranteed (wsV RX5 94 RX5 yX5_wrongBits wsX5_wrongBits) := goodIn_app (goodIn_of _ (by decide +kernel)) ggX5_isGuaranteed_X5_wrongBits
set_option maxRecDepth 20000 in
theorem ggX5_isGuaranteed_X5_lostBlocks : GoodIn wsX5_isGuaranteed wsX5_lostBlocks := goodIn_r _ [31, 2, 38, 39, 40, 41, 42, 43, 44, 47, 48, 49, 50, 51, 52, 53] (by decide +kernel) (by decide +kernel)
set_option maxRecDepth 20000 in
theorem gX5_isGuaranteed_X5_lostBlocks : GoodIn wsX5_isGuaranteed (wsV RX5 91 RX5 yX5_lostBlocks wsX5_lostBlocks) := goodIn_app (goodIn_of _ (by decide +kernel)) ggX5_isGuaranteed_X5_lostBlocks
set_option maxRecDepth 20000 in
theorem ggX5_isGuaranteed_X4_outerDistance : GoodIn wsX5_isGuaranteed wsX4_outerDistance := goodIn_r _ [35, 36, 37, 47, 48, 49, 50, 51, 52, 53] (by decide +kernel) (by decide +kernel)
set_option maxRecDepth 20000 in
theorem gX5_isGuaranteed_X4_outerDistance_n87 : GoodIn wsX5_isGuaranteed (wsX4_outerDistance) := ggX5_isGuaranteed_X4_outerDistance
theorem dX5_isGuaranteed_0 : decode cX5_isGuaranteed 0 = .ok (.iconst 2, 1) := by decide +kernel
theorem dX5_isGuaranteed_1 : decode cX5_isGuaranteed 1 = .ok (.aload_n 0, 1) := by decide +kernel
theorem dX5_isGuaranteed_2 : decode cX5_isGuaranteed 2 = .ok (.invokevirtual 94, 3) := by decide +kernel
theorem dX5_isGuaranteed_5 : decode cX5_isGuaranteed 5 = .ok (.imul, 1) := by decide +kernel
theorem dX5_isGuaranteed_6 : decode cX5_isGuaranteed 6 = .ok (.aload_n 0, 1) := by decide +kernel
theorem dX5_isGuaranteed_7 : decode cX5_isGuaranteed 7 = .ok (.getfield 26, 3) := by decide +kernel
theorem dX5_isGuaranteed_10 : decode cX5_isGuaranteed 10 = .ok (.getfield 78, 3) := by decide +kernel
theorem dX5_isGuaranteed_13 : decode cX5_isGuaranteed 13 = .ok (.aload_n 0, 1) := by decide +kernel
theorem dX5_isGuaranteed_14 : decode cX5_isGuaranteed 14 = .ok (.invokevirtual 91, 3) := by decide +kernel
theorem dX5_isGuaranteed_17 : decode cX5_isGuaranteed 17 = .ok (.imul, 1) := by decide +kernel
theorem dX5_isGuaranteed_18 : decode cX5_isGuaranteed 18 = .ok (.iadd, 1) := by decide +kernel
theorem dX5_isGuaranteed_19 : decode cX5_isGuaranteed 19 = .ok (.istore_n 1, 1) := by decide +kernel
theorem dX5_isGuaranteed_20 : decode cX5_isGuaranteed 20 = .ok (.iload_n 1, 1) := by decide +kernel
theorem dX5_isGuaranteed_21 : decode cX5_isGuaranteed 21 = .ok (.aload_n 0, 1) := by decide +kernel
theorem dX5_isGuaranteed_22 : decode cX5_isGuaranteed 22 = .ok (.getfield 26, 3) := by decide +kernel
theorem dX5_isGuaranteed_25 : decode cX5_isGuaranteed 25 = .ok (.getfield 78, 3) := by decide +kernel
theorem dX5_isGuaranteed_28 : decode cX5_isGuaranteed 28 = .ok (.aload_n 0, 1) := by decide +kernel
theorem dX5_isGuaranteed_29 : decode cX5_isGuaranteed 29 = .ok (.getfield 10, 3) := by decide +kernel
theorem dX5_isGuaranteed_32 : decode cX5_isGuaranteed 32 = .ok (.invokevirtual 87, 3) := by decide +kernel
theorem dX5_isGuaranteed_35 : decode cX5_isGuaranteed 35 = .ok (.imul, 1) := by decide +kernel
theorem dX5_isGuaranteed_36 : decode cX5_isGuaranteed 36 = .ok (.if_icmp .ge 7, 3) := by decide +kernel
theorem dX5_isGuaranteed_39 : decode cX5_isGuaranteed 39 = .ok (.iconst 1, 1) := by decide +kernel
theorem dX5_isGuaranteed_40 : decode cX5_isGuaranteed 40 = .ok (.goto 4, 3) := by decide +kernel
theorem dX5_isGuaranteed_43 : decode cX5_isGuaranteed 43 = .ok (.iconst 0, 1) := by decide +kernel
theorem dX5_isGuaranteed_44 : decode cX5_isGuaranteed 44 = .ok (.ireturn, 1) := by decide +kernel
set_option maxRecDepth 20000 in
theorem ggX5_fragileBits_X5_fragileBitsOf : GoodIn wsX5_fragileBits wsX5_fragileBitsOf := goodIn_r _ [6, 7, 8, 1, 9, 10, 11, 12, 5, 13, 14, 15, 16, 17, 18, 19, 20, 21, 22, 23, 24, 25, 26, 27, 28, 29, 30, 31, 32, 33, 34, 35, 36, 37, 38, 39, 40, 41, 42, 43, 44, 45, 46, 47, 48, 49, 50, 51, 52, 53, 54, 55, 56, 57, 58, 59, 60, 61, 62, 63, 64, 65, 66, 67, 68, 69, 70, 71, 72, 73, 74, 75, 76, 77, 78, 79, 80, 81, 82, 83, 84, 85, 86, 87, 88, 89, 90, 91, 92, 93, 94, 95, 96, 97, 98, 99] (by decide +kernel) (by decide +kernel)
set_option maxRecDepth 20000 in
theorem gX5_fragileBits_X5_fragileBitsOf : GoodIn wsX5_fragileBits (wsV RX5 190 RX5 yX5_fragileBitsOf wsX5_fragileBitsOf) := goodIn_app (goodIn_of _ (by decide +kernel)) ggX5_fragileBits_X5_fragileBitsOf
theorem dX5_fragileBits_0 : decode cX5_fragileBits 0 = .ok (.iconst 0, 1) := by decide +kernel
theorem dX5_fragileBits_1 : decode cX5_fragileBits 1 = .ok (.istore_n 1, 1) := by decide +kernel
theorem dX5_fragileBits_2 : decode cX5_fragileBits 2 = .ok (.iconst 0, 1) := by decide +kernel
theorem dX5_fragileBits_3 : decode cX5_fragileBits 3 = .ok (.istore_n 2, 1) := by decide +kernel
theorem dX5_fragileBits_4 : decode cX5_fragileBits 4 = .ok (.iload_n 2, 1) := by decide +kernel
theorem dX5_fragileBits_5 : decode cX5_fragileBits 5 = .ok (.aload_n 0, 1) := by decide +kernel
theorem dX5_fragileBits_6 : decode cX5_fragileBits 6 = .ok (.getfield 10, 3) := by decide +kernel
theorem dX5_fragileBits_9 : decode cX5_fragileBits 9 = .ok (.getfield 55, 3) := by decide +kernel
theorem dX5_fragileBits_12 : decode cX5_fragileBits 12 = .ok (.if_icmp .ge 29, 3) := by decide +kernel
theorem dX5_fragileBits_15 : decode cX5_fragileBits 15 = .ok (.aload_n 0, 1) := by decide +kernel
theorem dX5_fragileBits_16 : decode cX5_fragileBits 16 = .ok (.getfield 10, 3) := by decide +kernel
theorem dX5_fragileBits_19 : decode cX5_fragileBits 19 = .ok (.getfield 138, 3) := by decide +kernel
theorem dX5_fragileBits_22 : decode cX5_fragileBits 22 = .ok (.iload_n 2, 1) := by decide +kernel
theorem dX5_fragileBits_23 : decode cX5_fragileBits 23 = .ok (.baload, 1) := by decide +kernel
theorem dX5_fragileBits_24 : decode cX5_fragileBits 24 = .ok (.ifCond .ne 11, 3) := by decide +kernel
theorem dX5_fragileBits_27 : decode cX5_fragileBits 27 = .ok (.iload_n 1, 1) := by decide +kernel
theorem dX5_fragileBits_28 : decode cX5_fragileBits 28 = .ok (.aload_n 0, 1) := by decide +kernel
theorem dX5_fragileBits_29 : decode cX5_fragileBits 29 = .ok (.iload_n 2, 1) := by decide +kernel
theorem dX5_fragileBits_30 : decode cX5_fragileBits 30 = .ok (.invokevirtual 190, 3) := by decide +kernel
theorem dX5_fragileBits_33 : decode cX5_fragileBits 33 = .ok (.iadd, 1) := by decide +kernel
theorem dX5_fragileBits_34 : decode cX5_fragileBits 34 = .ok (.istore_n 1, 1) := by decide +kernel
theorem dX5_fragileBits_35 : decode cX5_fragileBits 35 = .ok (.iinc 2 1, 3) := by decide +kernel
theorem dX5_fragileBits_38 : decode cX5_fragileBits 38 = .ok (.goto (-34), 3) := by decide +kernel
theorem dX5_fragileBits_41 : decode cX5_fragileBits 41 = .ok (.iload_n 1, 1) := by decide +kernel
theorem dX5_fragileBits_42 : decode cX5_fragileBits 42 = .ok (.ireturn, 1) := by decide +kernel
set_option maxRecDepth 20000 in
theorem ggX5_fragileBlocks_X2_codeword : GoodIn wsX5_fragileBlocks wsX2_codeword := goodIn_r _ [7, 8, 61] (by decide +kernel) (by decide +kernel)
set_option maxRecDepth 20000 in
theorem gX5_fragileBlocks_X2_codeword_n114 : GoodIn wsX5_fragileBlocks (wsX2_codeword) := ggX5_fragileBlocks_X2_codeword
set_option maxRecDepth 20000 in
theorem ggX5_fragileBlocks_X3_scoreOf : GoodIn wsX5_fragileBlocks wsX3_scoreOf := goodIn_r _ [12, 13, 14, 15, 16, 17, 10, 18, 19, 20, 21, 5, 22, 23, 62, 63, 64, 65, 66, 67, 68, 69] (by decide +kernel) (by decide +kernel)
set_option maxRecDepth 20000 in
theorem gX5_fragileBlocks_X3_scoreOf_n183 : GoodIn wsX5_fragileBlocks (wsX3_scoreOf) := ggX5_fragileBlocks_X3_scoreOf
set_option maxRecDepth 20000 in
theorem ggX5_fragileBlocks_X5_partInSentScore : GoodIn wsX5_fragileBlocks wsX5_partInSentScore := goodIn_r _ [28, 1, 29, 30, 31, 27, 32, 2, 3, 4, 5, 6, 7, 8, 33, 34, 35, 47, 48, 49, 50, 51, 52, 53, 62, 63, 64, 65, 66, 67, 68, 69, 54, 55, 56, 57, 58, 59, 60, 61] (by decide +kernel) (by decide +kernel)
set_option maxRecDepth 20000 in
theorem gX5_fragileBlocks_X5_partInSentScore : GoodIn wsX5_fragileBlocks (wsV RX5 193 RX5 yX5_partInSentScore wsX5_partInSentScore) := goodIn_app (goodIn_of _ (by decide +kernel)) ggX5_fragileBlocks_X5_partInSentScore
set_option maxRecDepth 20000 in
theorem ggX5_fragileBlocks_X5_lawBound : GoodIn wsX5_fragileBlocks wsX5_lawBound := goodIn_r _ [39, 40, 3, 41, 42, 43, 44, 45, 46, 47, 48, 49, 50, 51, 52, 53, 70, 71, 54, 55, 56, 57, 58, 59, 60] (by decide +kernel) (by decide +kernel)
set_option maxRecDepth 20000 in
theorem gX5_fragileBlocks_X5_lawBound : GoodIn wsX5_fragileBlocks (wsV RX5 187 RX5 yX5_lawBound wsX5_lawBound) := goodIn_app (goodIn_of _ (by decide +kernel)) ggX5_fragileBlocks_X5_lawBound
theorem dX5_fragileBlocks_0 : decode cX5_fragileBlocks 0 = .ok (.aload_n 0, 1) := by decide +kernel
theorem dX5_fragileBlocks_1 : decode cX5_fragileBlocks 1 = .ok (.getfield 40, 3) := by decide +kernel
theorem dX5_fragileBlocks_4 : decode cX5_fragileBlocks 4 = .ok (.aload_n 0, 1) := by decide +kernel
theorem dX5_fragileBlocks_5 : decode cX5_fragileBlocks 5 = .ok (.getfield 33, 3) := by decide +kernel
theorem dX5_fragileBlocks_8 : decode cX5_fragileBlocks 8 = .ok (.aload_n 0, 1) := by decide +kernel
theorem dX5_fragileBlocks_9 : decode cX5_fragileBlocks 9 = .ok (.getfield 10, 3) := by decide +kernel
theorem dX5_fragileBlocks_12 : decode cX5_fragileBlocks 12 = .ok (.getfield 122, 3) := by decide +kernel
theorem dX5_fragileBlocks_15 : decode cX5_fragileBlocks 15 = .ok (.invokevirtual 114, 3) := by decide +kernel
theorem dX5_fragileBlocks_18 : decode cX5_fragileBlocks 18 = .ok (.invokevirtual 183, 3) := by decide +kernel
theorem dX5_fragileBlocks_21 : decode cX5_fragileBlocks 21 = .ok (.istore_n 1, 1) := by decide +kernel
theorem dX5_fragileBlocks_22 : decode cX5_fragileBlocks 22 = .ok (.iconst 0, 1) := by decide +kernel
theorem dX5_fragileBlocks_23 : decode cX5_fragileBlocks 23 = .ok (.istore_n 2, 1) := by decide +kernel
theorem dX5_fragileBlocks_24 : decode cX5_fragileBlocks 24 = .ok (.iconst 0, 1) := by decide +kernel
theorem dX5_fragileBlocks_25 : decode cX5_fragileBlocks 25 = .ok (.istore_n 3, 1) := by decide +kernel
theorem dX5_fragileBlocks_26 : decode cX5_fragileBlocks 26 = .ok (.iload_n 3, 1) := by decide +kernel
theorem dX5_fragileBlocks_27 : decode cX5_fragileBlocks 27 = .ok (.aload_n 0, 1) := by decide +kernel
theorem dX5_fragileBlocks_28 : decode cX5_fragileBlocks 28 = .ok (.getfield 10, 3) := by decide +kernel
theorem dX5_fragileBlocks_31 : decode cX5_fragileBlocks 31 = .ok (.getfield 55, 3) := by decide +kernel
theorem dX5_fragileBlocks_34 : decode cX5_fragileBlocks 34 = .ok (.if_icmp .ge 26, 3) := by decide +kernel
theorem dX5_fragileBlocks_37 : decode cX5_fragileBlocks 37 = .ok (.iload_n 1, 1) := by decide +kernel
theorem dX5_fragileBlocks_38 : decode cX5_fragileBlocks 38 = .ok (.aload_n 0, 1) := by decide +kernel
theorem dX5_fragileBlocks_39 : decode cX5_fragileBlocks 39 = .ok (.iload_n 3, 1) := by decide +kernel
theorem dX5_fragileBlocks_40 : decode cX5_fragileBlocks 40 = .ok (.invokevirtual 193, 3) := by decide +kernel
theorem dX5_fragileBlocks_43 : decode cX5_fragileBlocks 43 = .ok (.isub, 1) := by decide +kernel
theorem dX5_fragileBlocks_44 : decode cX5_fragileBlocks 44 = .ok (.aload_n 0, 1) := by decide +kernel
theorem dX5_fragileBlocks_45 : decode cX5_fragileBlocks 45 = .ok (.invokevirtual 187, 3) := by decide +kernel
theorem dX5_fragileBlocks_48 : decode cX5_fragileBlocks 48 = .ok (.if_icmp .gt 6, 3) := by decide +kernel
theorem dX5_fragileBlocks_51 : decode cX5_fragileBlocks 51 = .ok (.iinc 2 1, 3) := by decide +kernel
theorem dX5_fragileBlocks_54 : decode cX5_fragileBlocks 54 = .ok (.iinc 3 1, 3) := by decide +kernel
theorem dX5_fragileBlocks_57 : decode cX5_fragileBlocks 57 = .ok (.goto (-31), 3) := by decide +kernel
theorem dX5_fragileBlocks_60 : decode cX5_fragileBlocks 60 = .ok (.iload_n 2, 1) := by decide +kernel
theorem dX5_fragileBlocks_61 : decode cX5_fragileBlocks 61 = .ok (.ireturn, 1) := by decide +kernel
set_option maxRecDepth 20000 in
theorem ggX5_nearest_X5_lawfulMessage : GoodIn wsX5_nearest wsX5_lawfulMessage := goodIn_r _ [6, 1, 7, 8, 9, 10, 11, 5, 12, 13, 14, 15, 16, 17, 18, 19, 20, 21, 22, 23, 24, 25, 26, 27, 28, 29, 30, 31, 32, 33, 34, 35, 36, 37, 38, 39, 40, 41, 42, 43, 44, 45, 46, 47, 48, 49, 56, 57, 58, 59, 60, 61, 62, 63, 64, 65, 66, 67, 68, 69, 70, 71, 72, 73, 74, 75, 76, 77, 78, 79, 80] (by decide +kernel) (by decide +kernel)
set_option maxRecDepth 20000 in
theorem gX5_nearest_X5_lawfulMessage : GoodIn wsX5_nearest (wsV RX5 149 RX5 yX5_lawfulMessage wsX5_lawfulMessage) := goodIn_app (goodIn_of _ (by decide +kernel)) ggX5_nearest_X5_lawfulMessage
set_option maxRecDepth 20000 in
theorem ggX5_nearest_X4_outerDistance : GoodIn wsX5_nearest wsX4_outerDistance := goodIn_r _ [17, 18, 19, 65, 66, 67, 68, 69, 70, 71] (by decide +kernel) (by decide +kernel)
set_option maxRecDepth 20000 in
theorem gX5_nearest_X4_outerDistance_n87 : GoodIn wsX5_nearest (wsX4_outerDistance) := ggX5_nearest_X4_outerDistance
set_option maxRecDepth 20000 in
theorem ggX5_nearest_X5_nearestMessage : GoodIn wsX5_nearest wsX5_nearestMessage := goodIn_r _ [53, 7, 1, 23, 24, 25, 26, 27, 20, 15, 21, 22, 19, 34, 35, 36, 54, 55, 37, 38, 39, 40, 41, 42, 43, 14, 16, 17, 18, 56, 57, 58, 59, 60, 61, 62, 65, 66, 67, 68, 69, 70, 71, 72] (by decide +kernel) (by decide +kernel)
set_option maxRecDepth 20000 in
theorem gX5_nearest_X5_nearestMessage : GoodIn wsX5_nearest (wsV RX5 196 RX5 yX5_nearestMessage wsX5_nearestMessage) := goodIn_app (goodIn_of _ (by decide +kernel)) ggX5_nearest_X5_nearestMessage
theorem dX5_nearest_0 : decode cX5_nearest 0 = .ok (.iload_n 1, 1) := by decide +kernel
theorem dX5_nearest_1 : decode cX5_nearest 1 = .ok (.ifCond .lt 8, 3) := by decide +kernel
theorem dX5_nearest_4 : decode cX5_nearest 4 = .ok (.iload_n 1, 1) := by decide +kernel
theorem dX5_nearest_5 : decode cX5_nearest 5 = .ok (.iconst 1, 1) := by decide +kernel
theorem dX5_nearest_6 : decode cX5_nearest 6 = .ok (.if_icmp .le 7, 3) := by decide +kernel
theorem dX5_nearest_9 : decode cX5_nearest 9 = .ok (.sipush (-1001), 3) := by decide +kernel
theorem dX5_nearest_12 : decode cX5_nearest 12 = .ok (.ireturn, 1) := by decide +kernel
theorem dX5_nearest_13 : decode cX5_nearest 13 = .ok (.aload_n 0, 1) := by decide +kernel
theorem dX5_nearest_14 : decode cX5_nearest 14 = .ok (.invokevirtual 149, 3) := by decide +kernel
theorem dX5_nearest_17 : decode cX5_nearest 17 = .ok (.istore_n 2, 1) := by decide +kernel
theorem dX5_nearest_18 : decode cX5_nearest 18 = .ok (.iload_n 2, 1) := by decide +kernel
theorem dX5_nearest_19 : decode cX5_nearest 19 = .ok (.iconst (-1), 1) := by decide +kernel
theorem dX5_nearest_20 : decode cX5_nearest 20 = .ok (.if_icmp .ne 7, 3) := by decide +kernel
theorem dX5_nearest_23 : decode cX5_nearest 23 = .ok (.sipush (-1004), 3) := by decide +kernel
theorem dX5_nearest_26 : decode cX5_nearest 26 = .ok (.ireturn, 1) := by decide +kernel
theorem dX5_nearest_27 : decode cX5_nearest 27 = .ok (.iload_n 1, 1) := by decide +kernel
theorem dX5_nearest_28 : decode cX5_nearest 28 = .ok (.ifCond .ne 13, 3) := by decide +kernel
theorem dX5_nearest_31 : decode cX5_nearest 31 = .ok (.aload_n 0, 1) := by decide +kernel
theorem dX5_nearest_32 : decode cX5_nearest 32 = .ok (.getfield 10, 3) := by decide +kernel
theorem dX5_nearest_35 : decode cX5_nearest 35 = .ok (.invokevirtual 87, 3) := by decide +kernel
theorem dX5_nearest_38 : decode cX5_nearest 38 = .ok (.goto 8, 3) := by decide +kernel
theorem dX5_nearest_41 : decode cX5_nearest 41 = .ok (.aload_n 0, 1) := by decide +kernel
theorem dX5_nearest_42 : decode cX5_nearest 42 = .ok (.iload_n 2, 1) := by decide +kernel
theorem dX5_nearest_43 : decode cX5_nearest 43 = .ok (.invokevirtual 196, 3) := by decide +kernel
theorem dX5_nearest_46 : decode cX5_nearest 46 = .ok (.ireturn, 1) := by decide +kernel
set_option maxRecDepth 20000 in
theorem ggX5_isMessage_X4_messages : GoodIn wsX5_isMessage wsX4_messages := goodIn_r _ [5, 6, 14, 15, 16, 17, 18, 19, 20] (by decide +kernel) (by decide +kernel)
set_option maxRecDepth 20000 in
theorem gX5_isMessage_X4_messages_n176 : GoodIn wsX5_isMessage (wsX4_messages) := ggX5_isMessage_X4_messages
theorem dX5_isMessage_0 : decode cX5_isMessage 0 = .ok (.iload_n 1, 1) := by decide +kernel
theorem dX5_isMessage_1 : decode cX5_isMessage 1 = .ok (.ifCond .lt 18, 3) := by decide +kernel
theorem dX5_isMessage_4 : decode cX5_isMessage 4 = .ok (.iload_n 1, 1) := by decide +kernel
theorem dX5_isMessage_5 : decode cX5_isMessage 5 = .ok (.aload_n 0, 1) := by decide +kernel
theorem dX5_isMessage_6 : decode cX5_isMessage 6 = .ok (.getfield 10, 3) := by decide +kernel
theorem dX5_isMessage_9 : decode cX5_isMessage 9 = .ok (.invokevirtual 176, 3) := by decide +kernel
theorem dX5_isMessage_12 : decode cX5_isMessage 12 = .ok (.if_icmp .ge 7, 3) := by decide +kernel
theorem dX5_isMessage_15 : decode cX5_isMessage 15 = .ok (.iconst 1, 1) := by decide +kernel
theorem dX5_isMessage_16 : decode cX5_isMessage 16 = .ok (.goto 4, 3) := by decide +kernel
theorem dX5_isMessage_19 : decode cX5_isMessage 19 = .ok (.iconst 0, 1) := by decide +kernel
theorem dX5_isMessage_20 : decode cX5_isMessage 20 = .ok (.ireturn, 1) := by decide +kernel
theorem dX5_isBlock_0 : decode cX5_isBlock 0 = .ok (.iload_n 1, 1) := by decide +kernel
theorem dX5_isBlock_1 : decode cX5_isBlock 1 = .ok (.ifCond .lt 18, 3) := by decide +kernel
theorem dX5_isBlock_4 : decode cX5_isBlock 4 = .ok (.iload_n 1, 1) := by decide +kernel
theorem dX5_isBlock_5 : decode cX5_isBlock 5 = .ok (.aload_n 0, 1) := by decide +kernel
theorem dX5_isBlock_6 : decode cX5_isBlock 6 = .ok (.getfield 10, 3) := by decide +kernel
theorem dX5_isBlock_9 : decode cX5_isBlock 9 = .ok (.getfield 55, 3) := by decide +kernel
theorem dX5_isBlock_12 : decode cX5_isBlock 12 = .ok (.if_icmp .ge 7, 3) := by decide +kernel
theorem dX5_isBlock_15 : decode cX5_isBlock 15 = .ok (.iconst 1, 1) := by decide +kernel
theorem dX5_isBlock_16 : decode cX5_isBlock 16 = .ok (.goto 4, 3) := by decide +kernel
theorem dX5_isBlock_19 : decode cX5_isBlock 19 = .ok (.iconst 0, 1) := by decide +kernel
theorem dX5_isBlock_20 : decode cX5_isBlock 20 = .ok (.ireturn, 1) := by decide +kernel
theorem dX5_generatedWord_0 : decode cX5_generatedWord 0 = .ok (.iconst 0, 1) := by decide +kernel
theorem dX5_generatedWord_1 : decode cX5_generatedWord 1 = .ok (.istore_n 2, 1) := by decide +kernel
theorem dX5_generatedWord_2 : decode cX5_generatedWord 2 = .ok (.iconst 0, 1) := by decide +kernel
theorem dX5_generatedWord_3 : decode cX5_generatedWord 3 = .ok (.istore_n 3, 1) := by decide +kernel
theorem dX5_generatedWord_4 : decode cX5_generatedWord 4 = .ok (.iload_n 3, 1) := by decide +kernel
theorem dX5_generatedWord_5 : decode cX5_generatedWord 5 = .ok (.iconst 4, 1) := by decide +kernel
theorem dX5_generatedWord_6 : decode cX5_generatedWord 6 = .ok (.if_icmp .ge 24, 3) := by decide +kernel
theorem dX5_generatedWord_9 : decode cX5_generatedWord 9 = .ok (.iload_n 1, 1) := by decide +kernel
theorem dX5_generatedWord_10 : decode cX5_generatedWord 10 = .ok (.iload_n 3, 1) := by decide +kernel
theorem dX5_generatedWord_11 : decode cX5_generatedWord 11 = .ok (.ishr, 1) := by decide +kernel
theorem dX5_generatedWord_12 : decode cX5_generatedWord 12 = .ok (.iconst 1, 1) := by decide +kernel
theorem dX5_generatedWord_13 : decode cX5_generatedWord 13 = .ok (.iand, 1) := by decide +kernel
theorem dX5_generatedWord_14 : decode cX5_generatedWord 14 = .ok (.iconst 1, 1) := by decide +kernel
theorem dX5_generatedWord_15 : decode cX5_generatedWord 15 = .ok (.if_icmp .ne 9, 3) := by decide +kernel
theorem dX5_generatedWord_18 : decode cX5_generatedWord 18 = .ok (.iload_n 2, 1) := by decide +kernel
theorem dX5_generatedWord_19 : decode cX5_generatedWord 19 = .ok (.aload_n 0, 1) := by decide +kernel
theorem dX5_generatedWord_20 : decode cX5_generatedWord 20 = .ok (.iload_n 3, 1) := by decide +kernel
theorem dX5_generatedWord_21 : decode cX5_generatedWord 21 = .ok (.iaload, 1) := by decide +kernel
theorem dX5_generatedWord_22 : decode cX5_generatedWord 22 = .ok (.ixor, 1) := by decide +kernel
theorem dX5_generatedWord_23 : decode cX5_generatedWord 23 = .ok (.istore_n 2, 1) := by decide +kernel
theorem dX5_generatedWord_24 : decode cX5_generatedWord 24 = .ok (.iinc 3 1, 3) := by decide +kernel
theorem dX5_generatedWord_27 : decode cX5_generatedWord 27 = .ok (.goto (-23), 3) := by decide +kernel
theorem dX5_generatedWord_30 : decode cX5_generatedWord 30 = .ok (.iload_n 2, 1) := by decide +kernel
theorem dX5_generatedWord_31 : decode cX5_generatedWord 31 = .ok (.ireturn, 1) := by decide +kernel
theorem dX5_fieldProduct_0 : decode cX5_fieldProduct 0 = .ok (.iconst 0, 1) := by decide +kernel
theorem dX5_fieldProduct_1 : decode cX5_fieldProduct 1 = .ok (.istore_n 2, 1) := by decide +kernel
theorem dX5_fieldProduct_2 : decode cX5_fieldProduct 2 = .ok (.iload_n 0, 1) := by decide +kernel
theorem dX5_fieldProduct_3 : decode cX5_fieldProduct 3 = .ok (.istore_n 3, 1) := by decide +kernel
theorem dX5_fieldProduct_4 : decode cX5_fieldProduct 4 = .ok (.iconst 0, 1) := by decide +kernel
theorem dX5_fieldProduct_5 : decode cX5_fieldProduct 5 = .ok (.istore 4, 2) := by decide +kernel
theorem dX5_fieldProduct_7 : decode cX5_fieldProduct 7 = .ok (.iload 4, 2) := by decide +kernel
theorem dX5_fieldProduct_9 : decode cX5_fieldProduct 9 = .ok (.iconst 4, 1) := by decide +kernel
theorem dX5_fieldProduct_10 : decode cX5_fieldProduct 10 = .ok (.if_icmp .ge 38, 3) := by decide +kernel
theorem dX5_fieldProduct_13 : decode cX5_fieldProduct 13 = .ok (.iload_n 1, 1) := by decide +kernel
theorem dX5_fieldProduct_14 : decode cX5_fieldProduct 14 = .ok (.iload 4, 2) := by decide +kernel
theorem dX5_fieldProduct_16 : decode cX5_fieldProduct 16 = .ok (.ishr, 1) := by decide +kernel
theorem dX5_fieldProduct_17 : decode cX5_fieldProduct 17 = .ok (.iconst 1, 1) := by decide +kernel
theorem dX5_fieldProduct_18 : decode cX5_fieldProduct 18 = .ok (.iand, 1) := by decide +kernel
theorem dX5_fieldProduct_19 : decode cX5_fieldProduct 19 = .ok (.iconst 1, 1) := by decide +kernel
theorem dX5_fieldProduct_20 : decode cX5_fieldProduct 20 = .ok (.if_icmp .ne 7, 3) := by decide +kernel
theorem dX5_fieldProduct_23 : decode cX5_fieldProduct 23 = .ok (.iload_n 2, 1) := by decide +kernel
theorem dX5_fieldProduct_24 : decode cX5_fieldProduct 24 = .ok (.iload_n 3, 1) := by decide +kernel
theorem dX5_fieldProduct_25 : decode cX5_fieldProduct 25 = .ok (.ixor, 1) := by decide +kernel
theorem dX5_fieldProduct_26 : decode cX5_fieldProduct 26 = .ok (.istore_n 2, 1) := by decide +kernel
theorem dX5_fieldProduct_27 : decode cX5_fieldProduct 27 = .ok (.iload_n 3, 1) := by decide +kernel
theorem dX5_fieldProduct_28 : decode cX5_fieldProduct 28 = .ok (.iconst 1, 1) := by decide +kernel
theorem dX5_fieldProduct_29 : decode cX5_fieldProduct 29 = .ok (.ishl, 1) := by decide +kernel
theorem dX5_fieldProduct_30 : decode cX5_fieldProduct 30 = .ok (.istore_n 3, 1) := by decide +kernel
theorem dX5_fieldProduct_31 : decode cX5_fieldProduct 31 = .ok (.iload_n 3, 1) := by decide +kernel
theorem dX5_fieldProduct_32 : decode cX5_fieldProduct 32 = .ok (.bipush 16, 2) := by decide +kernel
theorem dX5_fieldProduct_34 : decode cX5_fieldProduct 34 = .ok (.if_icmp .lt 8, 3) := by decide +kernel
theorem dX5_fieldProduct_37 : decode cX5_fieldProduct 37 = .ok (.iload_n 3, 1) := by decide +kernel
theorem dX5_fieldProduct_38 : decode cX5_fieldProduct 38 = .ok (.bipush 19, 2) := by decide +kernel
theorem dX5_fieldProduct_40 : decode cX5_fieldProduct 40 = .ok (.ixor, 1) := by decide +kernel
theorem dX5_fieldProduct_41 : decode cX5_fieldProduct 41 = .ok (.istore_n 3, 1) := by decide +kernel
theorem dX5_fieldProduct_42 : decode cX5_fieldProduct 42 = .ok (.iinc 4 1, 3) := by decide +kernel
theorem dX5_fieldProduct_45 : decode cX5_fieldProduct 45 = .ok (.goto (-38), 3) := by decide +kernel
theorem dX5_fieldProduct_48 : decode cX5_fieldProduct 48 = .ok (.iload_n 2, 1) := by decide +kernel
theorem dX5_fieldProduct_49 : decode cX5_fieldProduct 49 = .ok (.ireturn, 1) := by decide +kernel
theorem dX5_symbolIn_0 : decode cX5_symbolIn 0 = .ok (.lload_n 0, 1) := by decide +kernel
theorem dX5_symbolIn_1 : decode cX5_symbolIn 1 = .ok (.iconst 4, 1) := by decide +kernel
theorem dX5_symbolIn_2 : decode cX5_symbolIn 2 = .ok (.iload_n 2, 1) := by decide +kernel
theorem dX5_symbolIn_3 : decode cX5_symbolIn 3 = .ok (.imul, 1) := by decide +kernel
theorem dX5_symbolIn_4 : decode cX5_symbolIn 4 = .ok (.lushr, 1) := by decide +kernel
theorem dX5_symbolIn_5 : decode cX5_symbolIn 5 = .ok (.l2i, 1) := by decide +kernel
theorem dX5_symbolIn_6 : decode cX5_symbolIn 6 = .ok (.bipush 15, 2) := by decide +kernel
theorem dX5_symbolIn_8 : decode cX5_symbolIn 8 = .ok (.iand, 1) := by decide +kernel
theorem dX5_symbolIn_9 : decode cX5_symbolIn 9 = .ok (.ireturn, 1) := by decide +kernel
set_option maxRecDepth 20000 in
theorem ggX5_readAgain_X1_setGenerators : GoodIn wsX5_readAgain wsX1_setGenerators := goodIn_r _ [7, 8, 9, 10, 11, 12, 13, 14, 15, 16, 17, 18, 19, 20, 21, 22, 23, 75, 76] (by decide +kernel) (by decide +kernel)
set_option maxRecDepth 20000 in
theorem gX5_readAgain_X1_setGenerators_n203 : GoodIn wsX5_readAgain (wsX1_setGenerators) := ggX5_readAgain_X1_setGenerators
set_option maxRecDepth 20000 in
theorem ggX5_readAgain_X3_read : GoodIn wsX5_readAgain wsX3_read := goodIn_r _ [27, 28, 29, 30, 31, 32, 33, 34, 35, 36, 37, 38, 39, 40, 25, 41, 42, 43, 44, 5, 45, 46, 47, 48, 49, 50, 9, 17, 18, 19, 20, 21, 22, 23, 51, 52, 53, 8, 54, 55, 12, 56, 57, 58, 59, 60, 68, 69, 70, 71, 72, 73, 74, 77, 78, 79, 80, 81, 82, 83, 84, 75, 76] (by decide +kernel) (by decide +kernel)
set_option maxRecDepth 20000 in
theorem gX5_readAgain_X3_read_n207 : GoodIn wsX5_readAgain (wsX3_read) := ggX5_readAgain_X3_read
theorem dX5_readAgain_0 : decode cX5_readAgain 0 = .ok (.aload_n 0, 1) := by decide +kernel
theorem dX5_readAgain_1 : decode cX5_readAgain 1 = .ok (.getfield 26, 3) := by decide +kernel
theorem dX5_readAgain_4 : decode cX5_readAgain 4 = .ok (.aload_n 0, 1) := by decide +kernel
theorem dX5_readAgain_5 : decode cX5_readAgain 5 = .ok (.getfield 10, 3) := by decide +kernel
theorem dX5_readAgain_8 : decode cX5_readAgain 8 = .ok (.getfield 75, 3) := by decide +kernel
theorem dX5_readAgain_11 : decode cX5_readAgain 11 = .ok (.invokevirtual 203, 3) := by decide +kernel
theorem dX5_readAgain_14 : decode cX5_readAgain 14 = .ok (.aload_n 0, 1) := by decide +kernel
theorem dX5_readAgain_15 : decode cX5_readAgain 15 = .ok (.getfield 40, 3) := by decide +kernel
theorem dX5_readAgain_18 : decode cX5_readAgain 18 = .ok (.aload_n 0, 1) := by decide +kernel
theorem dX5_readAgain_19 : decode cX5_readAgain 19 = .ok (.getfield 10, 3) := by decide +kernel
theorem dX5_readAgain_22 : decode cX5_readAgain 22 = .ok (.aload_n 0, 1) := by decide +kernel
theorem dX5_readAgain_23 : decode cX5_readAgain 23 = .ok (.getfield 26, 3) := by decide +kernel
theorem dX5_readAgain_26 : decode cX5_readAgain 26 = .ok (.invokevirtual 207, 3) := by decide +kernel
theorem dX5_readAgain_29 : decode cX5_readAgain 29 = .ok (.return_, 1) := by decide +kernel
set_option maxRecDepth 20000 in
theorem ggX5_sentSymbol_X2_codeword : GoodIn wsX5_sentSymbol wsX2_codeword := goodIn_r _ [6, 7, 26] (by decide +kernel) (by decide +kernel)
set_option maxRecDepth 20000 in
theorem gX5_sentSymbol_X2_codeword_n114 : GoodIn wsX5_sentSymbol (wsX2_codeword) := ggX5_sentSymbol_X2_codeword
set_option maxRecDepth 20000 in
theorem ggX5_sentSymbol_X5_symbolIn : GoodIn wsX5_sentSymbol wsX5_symbolIn := goodIn_r _ [11] (by decide +kernel) (by decide +kernel)
set_option maxRecDepth 20000 in
theorem gX5_sentSymbol_X5_symbolIn : GoodIn wsX5_sentSymbol (va_wsS RX5 118 yX5_symbolIn wsX5_symbolIn) := goodIn_app (goodIn_of _ (by decide +kernel)) ggX5_sentSymbol_X5_symbolIn
theorem dX5_sentSymbol_0 : decode cX5_sentSymbol 0 = .ok (.aload_n 0, 1) := by decide +kernel
theorem dX5_sentSymbol_1 : decode cX5_sentSymbol 1 = .ok (.getfield 33, 3) := by decide +kernel
theorem dX5_sentSymbol_4 : decode cX5_sentSymbol 4 = .ok (.aload_n 0, 1) := by decide +kernel
theorem dX5_sentSymbol_5 : decode cX5_sentSymbol 5 = .ok (.getfield 10, 3) := by decide +kernel
theorem dX5_sentSymbol_8 : decode cX5_sentSymbol 8 = .ok (.getfield 122, 3) := by decide +kernel
theorem dX5_sentSymbol_11 : decode cX5_sentSymbol 11 = .ok (.invokevirtual 114, 3) := by decide +kernel
theorem dX5_sentSymbol_14 : decode cX5_sentSymbol 14 = .ok (.iload_n 1, 1) := by decide +kernel
theorem dX5_sentSymbol_15 : decode cX5_sentSymbol 15 = .ok (.invokestatic 118, 3) := by decide +kernel
theorem dX5_sentSymbol_18 : decode cX5_sentSymbol 18 = .ok (.ireturn, 1) := by decide +kernel
set_option maxRecDepth 20000 in
theorem ggX5_wordSentFor_X2_codeword : GoodIn wsX5_wordSentFor wsX2_codeword := goodIn_r _ [6, 7, 21] (by decide +kernel) (by decide +kernel)
set_option maxRecDepth 20000 in
theorem gX5_wordSentFor_X2_codeword_n114 : GoodIn wsX5_wordSentFor (wsX2_codeword) := ggX5_wordSentFor_X2_codeword
set_option maxRecDepth 20000 in
theorem ggX5_wordSentFor_X5_symbolIn : GoodIn wsX5_wordSentFor wsX5_symbolIn := goodIn_r _ [11] (by decide +kernel) (by decide +kernel)
set_option maxRecDepth 20000 in
theorem gX5_wordSentFor_X5_symbolIn : GoodIn wsX5_wordSentFor (va_wsS RX5 118 yX5_symbolIn wsX5_symbolIn) := goodIn_app (goodIn_of _ (by decide +kernel)) ggX5_wordSentFor_X5_symbolIn
theorem dX5_wordSentFor_0 : decode cX5_wordSentFor 0 = .ok (.aload_n 0, 1) := by decide +kernel
theorem dX5_wordSentFor_1 : decode cX5_wordSentFor 1 = .ok (.getfield 26, 3) := by decide +kernel
theorem dX5_wordSentFor_4 : decode cX5_wordSentFor 4 = .ok (.getfield 101, 3) := by decide +kernel
theorem dX5_wordSentFor_7 : decode cX5_wordSentFor 7 = .ok (.aload_n 0, 1) := by decide +kernel
theorem dX5_wordSentFor_8 : decode cX5_wordSentFor 8 = .ok (.getfield 33, 3) := by decide +kernel
theorem dX5_wordSentFor_11 : decode cX5_wordSentFor 11 = .ok (.iload_n 1, 1) := by decide +kernel
theorem dX5_wordSentFor_12 : decode cX5_wordSentFor 12 = .ok (.invokevirtual 114, 3) := by decide +kernel
theorem dX5_wordSentFor_15 : decode cX5_wordSentFor 15 = .ok (.iload_n 2, 1) := by decide +kernel
theorem dX5_wordSentFor_16 : decode cX5_wordSentFor 16 = .ok (.invokestatic 118, 3) := by decide +kernel
theorem dX5_wordSentFor_19 : decode cX5_wordSentFor 19 = .ok (.iaload, 1) := by decide +kernel
theorem dX5_wordSentFor_20 : decode cX5_wordSentFor 20 = .ok (.ireturn, 1) := by decide +kernel
theorem dX5_lostBlocks_0 : decode cX5_lostBlocks 0 = .ok (.iconst 0, 1) := by decide +kernel
theorem dX5_lostBlocks_1 : decode cX5_lostBlocks 1 = .ok (.istore_n 1, 1) := by decide +kernel
theorem dX5_lostBlocks_2 : decode cX5_lostBlocks 2 = .ok (.iconst 0, 1) := by decide +kernel
theorem dX5_lostBlocks_3 : decode cX5_lostBlocks 3 = .ok (.istore_n 2, 1) := by decide +kernel
theorem dX5_lostBlocks_4 : decode cX5_lostBlocks 4 = .ok (.iload_n 2, 1) := by decide +kernel
theorem dX5_lostBlocks_5 : decode cX5_lostBlocks 5 = .ok (.aload_n 0, 1) := by decide +kernel
theorem dX5_lostBlocks_6 : decode cX5_lostBlocks 6 = .ok (.getfield 10, 3) := by decide +kernel
theorem dX5_lostBlocks_9 : decode cX5_lostBlocks 9 = .ok (.getfield 55, 3) := by decide +kernel
theorem dX5_lostBlocks_12 : decode cX5_lostBlocks 12 = .ok (.if_icmp .ge 24, 3) := by decide +kernel
theorem dX5_lostBlocks_15 : decode cX5_lostBlocks 15 = .ok (.aload_n 0, 1) := by decide +kernel
theorem dX5_lostBlocks_16 : decode cX5_lostBlocks 16 = .ok (.getfield 10, 3) := by decide +kernel
theorem dX5_lostBlocks_19 : decode cX5_lostBlocks 19 = .ok (.getfield 138, 3) := by decide +kernel
theorem dX5_lostBlocks_22 : decode cX5_lostBlocks 22 = .ok (.iload_n 2, 1) := by decide +kernel
theorem dX5_lostBlocks_23 : decode cX5_lostBlocks 23 = .ok (.baload, 1) := by decide +kernel
theorem dX5_lostBlocks_24 : decode cX5_lostBlocks 24 = .ok (.ifCond .eq 6, 3) := by decide +kernel
theorem dX5_lostBlocks_27 : decode cX5_lostBlocks 27 = .ok (.iinc 1 1, 3) := by decide +kernel
theorem dX5_lostBlocks_30 : decode cX5_lostBlocks 30 = .ok (.iinc 2 1, 3) := by decide +kernel
theorem dX5_lostBlocks_33 : decode cX5_lostBlocks 33 = .ok (.goto (-29), 3) := by decide +kernel
theorem dX5_lostBlocks_36 : decode cX5_lostBlocks 36 = .ok (.iload_n 1, 1) := by decide +kernel
theorem dX5_lostBlocks_37 : decode cX5_lostBlocks 37 = .ok (.ireturn, 1) := by decide +kernel
set_option maxRecDepth 20000 in
theorem ggX5_wrongBits_X5_wordSentFor : GoodIn wsX5_wrongBits wsX5_wordSentFor := goodIn_r _ [6, 7, 8, 9, 10, 11, 12, 13, 14, 15, 5, 16, 24, 25, 26, 27, 28, 29, 30, 38, 39, 40] (by decide +kernel) (by decide +kernel)
set_option maxRecDepth 20000 in
theorem gX5_wrongBits_X5_wordSentFor : GoodIn wsX5_wrongBits (wsV RX5 125 RX5 yX5_wordSentFor wsX5_wordSentFor) := goodIn_app (goodIn_of _ (by decide +kernel)) ggX5_wrongBits_X5_wordSentFor
set_option maxRecDepth 20000 in
theorem ggX5_wrongBits_J6_bitCount_0f7a4 : GoodIn wsX5_wrongBits wsJ6_bitCount_0f7a4 := goodIn_r _ [20, 21, 22, 23] (by decide +kernel) (by decide +kernel)
set_option maxRecDepth 20000 in
theorem gX5_wrongBits_J6_bitCount_0f7a4 : GoodIn wsX5_wrongBits (va_wsS RX5 129 yJ6_bitCount_0f7a4 wsJ6_bitCount_0f7a4) := goodIn_app (goodIn_of _ (by decide +kernel)) ggX5_wrongBits_J6_bitCount_0f7a4
theorem dX5_wrongBits_0 : decode cX5_wrongBits 0 = .ok (.iconst 0, 1) := by decide +kernel
theorem dX5_wrongBits_1 : decode cX5_wrongBits 1 = .ok (.istore_n 1, 1) := by decide +kernel
theorem dX5_wrongBits_2 : decode cX5_wrongBits 2 = .ok (.iconst 0, 1) := by decide +kernel
theorem dX5_wrongBits_3 : decode cX5_wrongBits 3 = .ok (.istore_n 2, 1) := by decide +kernel
theorem dX5_wrongBits_4 : decode cX5_wrongBits 4 = .ok (.iload_n 2, 1) := by decide +kernel
theorem dX5_wrongBits_5 : decode cX5_wrongBits 5 = .ok (.aload_n 0, 1) := by decide +kernel
theorem dX5_wrongBits_6 : decode cX5_wrongBits 6 = .ok (.getfield 10, 3) := by decide +kernel
theorem dX5_wrongBits_9 : decode cX5_wrongBits 9 = .ok (.getfield 55, 3) := by decide +kernel
theorem dX5_wrongBits_12 : decode cX5_wrongBits 12 = .ok (.if_icmp .ge 51, 3) := by decide +kernel
theorem dX5_wrongBits_15 : decode cX5_wrongBits 15 = .ok (.aload_n 0, 1) := by decide +kernel
theorem dX5_wrongBits_16 : decode cX5_wrongBits 16 = .ok (.getfield 10, 3) := by decide +kernel
theorem dX5_wrongBits_19 : decode cX5_wrongBits 19 = .ok (.getfield 138, 3) := by decide +kernel
theorem dX5_wrongBits_22 : decode cX5_wrongBits 22 = .ok (.iload_n 2, 1) := by decide +kernel
theorem dX5_wrongBits_23 : decode cX5_wrongBits 23 = .ok (.baload, 1) := by decide +kernel
theorem dX5_wrongBits_24 : decode cX5_wrongBits 24 = .ok (.ifCond .ne 33, 3) := by decide +kernel
theorem dX5_wrongBits_27 : decode cX5_wrongBits 27 = .ok (.aload_n 0, 1) := by decide +kernel
theorem dX5_wrongBits_28 : decode cX5_wrongBits 28 = .ok (.aload_n 0, 1) := by decide +kernel
theorem dX5_wrongBits_29 : decode cX5_wrongBits 29 = .ok (.getfield 10, 3) := by decide +kernel
theorem dX5_wrongBits_32 : decode cX5_wrongBits 32 = .ok (.getfield 122, 3) := by decide +kernel
theorem dX5_wrongBits_35 : decode cX5_wrongBits 35 = .ok (.iload_n 2, 1) := by decide +kernel
theorem dX5_wrongBits_36 : decode cX5_wrongBits 36 = .ok (.invokevirtual 125, 3) := by decide +kernel
theorem dX5_wrongBits_39 : decode cX5_wrongBits 39 = .ok (.istore_n 3, 1) := by decide +kernel
theorem dX5_wrongBits_40 : decode cX5_wrongBits 40 = .ok (.iload_n 1, 1) := by decide +kernel
theorem dX5_wrongBits_41 : decode cX5_wrongBits 41 = .ok (.aload_n 0, 1) := by decide +kernel
theorem dX5_wrongBits_42 : decode cX5_wrongBits 42 = .ok (.getfield 10, 3) := by decide +kernel
theorem dX5_wrongBits_45 : decode cX5_wrongBits 45 = .ok (.getfield 128, 3) := by decide +kernel
theorem dX5_wrongBits_48 : decode cX5_wrongBits 48 = .ok (.iload_n 2, 1) := by decide +kernel
theorem dX5_wrongBits_49 : decode cX5_wrongBits 49 = .ok (.iaload, 1) := by decide +kernel
theorem dX5_wrongBits_50 : decode cX5_wrongBits 50 = .ok (.iload_n 3, 1) := by decide +kernel
theorem dX5_wrongBits_51 : decode cX5_wrongBits 51 = .ok (.ixor, 1) := by decide +kernel
theorem dX5_wrongBits_52 : decode cX5_wrongBits 52 = .ok (.invokestatic 129, 3) := by decide +kernel
theorem dX5_wrongBits_55 : decode cX5_wrongBits 55 = .ok (.iadd, 1) := by decide +kernel
theorem dX5_wrongBits_56 : decode cX5_wrongBits 56 = .ok (.istore_n 1, 1) := by decide +kernel
theorem dX5_wrongBits_57 : decode cX5_wrongBits 57 = .ok (.iinc 2 1, 3) := by decide +kernel
theorem dX5_wrongBits_60 : decode cX5_wrongBits 60 = .ok (.goto (-56), 3) := by decide +kernel
theorem dX5_wrongBits_63 : decode cX5_wrongBits 63 = .ok (.iload_n 1, 1) := by decide +kernel
theorem dX5_wrongBits_64 : decode cX5_wrongBits 64 = .ok (.ireturn, 1) := by decide +kernel
theorem dX5_burstMask_0 : decode cX5_burstMask 0 = .ok (.aload_n 0, 1) := by decide +kernel
theorem dX5_burstMask_1 : decode cX5_burstMask 1 = .ok (.getfield 10, 3) := by decide +kernel
theorem dX5_burstMask_4 : decode cX5_burstMask 4 = .ok (.getfield 72, 3) := by decide +kernel
theorem dX5_burstMask_7 : decode cX5_burstMask 7 = .ok (.iload_n 1, 1) := by decide +kernel
theorem dX5_burstMask_8 : decode cX5_burstMask 8 = .ok (.imul, 1) := by decide +kernel
theorem dX5_burstMask_9 : decode cX5_burstMask 9 = .ok (.istore 4, 2) := by decide +kernel
theorem dX5_burstMask_11 : decode cX5_burstMask 11 = .ok (.iload_n 2, 1) := by decide +kernel
theorem dX5_burstMask_12 : decode cX5_burstMask 12 = .ok (.iload 4, 2) := by decide +kernel
theorem dX5_burstMask_14 : decode cX5_burstMask 14 = .ok (.isub, 1) := by decide +kernel
theorem dX5_burstMask_15 : decode cX5_burstMask 15 = .ok (.iconst 0, 1) := by decide +kernel
theorem dX5_burstMask_16 : decode cX5_burstMask 16 = .ok (.invokestatic 211, 3) := by decide +kernel
theorem dX5_burstMask_19 : decode cX5_burstMask 19 = .ok (.istore 5, 2) := by decide +kernel
theorem dX5_burstMask_21 : decode cX5_burstMask 21 = .ok (.iload_n 3, 1) := by decide +kernel
theorem dX5_burstMask_22 : decode cX5_burstMask 22 = .ok (.iload 4, 2) := by decide +kernel
theorem dX5_burstMask_24 : decode cX5_burstMask 24 = .ok (.isub, 1) := by decide +kernel
theorem dX5_burstMask_25 : decode cX5_burstMask 25 = .ok (.aload_n 0, 1) := by decide +kernel
theorem dX5_burstMask_26 : decode cX5_burstMask 26 = .ok (.getfield 10, 3) := by decide +kernel
theorem dX5_burstMask_29 : decode cX5_burstMask 29 = .ok (.getfield 72, 3) := by decide +kernel
theorem dX5_burstMask_32 : decode cX5_burstMask 32 = .ok (.invokestatic 216, 3) := by decide +kernel
theorem dX5_burstMask_35 : decode cX5_burstMask 35 = .ok (.istore 6, 2) := by decide +kernel
theorem dX5_burstMask_37 : decode cX5_burstMask 37 = .ok (.iload 5, 2) := by decide +kernel
theorem dX5_burstMask_39 : decode cX5_burstMask 39 = .ok (.iload 6, 2) := by decide +kernel
theorem dX5_burstMask_41 : decode cX5_burstMask 41 = .ok (.if_icmp .ge 15, 3) := by decide +kernel
theorem dX5_burstMask_44 : decode cX5_burstMask 44 = .ok (.iconst 1, 1) := by decide +kernel
theorem dX5_burstMask_45 : decode cX5_burstMask 45 = .ok (.iload 6, 2) := by decide +kernel
theorem dX5_burstMask_47 : decode cX5_burstMask 47 = .ok (.ishl, 1) := by decide +kernel
theorem dX5_burstMask_48 : decode cX5_burstMask 48 = .ok (.iconst 1, 1) := by decide +kernel
theorem dX5_burstMask_49 : decode cX5_burstMask 49 = .ok (.iload 5, 2) := by decide +kernel
theorem dX5_burstMask_51 : decode cX5_burstMask 51 = .ok (.ishl, 1) := by decide +kernel
theorem dX5_burstMask_52 : decode cX5_burstMask 52 = .ok (.isub, 1) := by decide +kernel
theorem dX5_burstMask_53 : decode cX5_burstMask 53 = .ok (.goto 4, 3) := by decide +kernel
theorem dX5_burstMask_56 : decode cX5_burstMask 56 = .ok (.iconst 0, 1) := by decide +kernel
theorem dX5_burstMask_57 : decode cX5_burstMask 57 = .ok (.ireturn, 1) := by decide +kernel
set_option maxRecDepth 20000 in
theorem ggX5_lawBound_X4_outerDistance : GoodIn wsX5_lawBound wsX4_outerDistance := goodIn_r _ [6, 7, 8, 18, 19, 20, 21, 22, 23, 24] (by decide +kernel) (by decide +kernel)
set_option maxRecDepth 20000 in
theorem gX5_lawBound_X4_outerDistance_n87 : GoodIn wsX5_lawBound (wsX4_outerDistance) := ggX5_lawBound_X4_outerDistance
theorem dX5_lawBound_0 : decode cX5_lawBound 0 = .ok (.aload_n 0, 1) := by decide +kernel
theorem dX5_lawBound_1 : decode cX5_lawBound 1 = .ok (.getfield 26, 3) := by decide +kernel
theorem dX5_lawBound_4 : decode cX5_lawBound 4 = .ok (.getfield 78, 3) := by decide +kernel
theorem dX5_lawBound_7 : decode cX5_lawBound 7 = .ok (.aload_n 0, 1) := by decide +kernel
theorem dX5_lawBound_8 : decode cX5_lawBound 8 = .ok (.getfield 10, 3) := by decide +kernel
theorem dX5_lawBound_11 : decode cX5_lawBound 11 = .ok (.getfield 55, 3) := by decide +kernel
theorem dX5_lawBound_14 : decode cX5_lawBound 14 = .ok (.aload_n 0, 1) := by decide +kernel
theorem dX5_lawBound_15 : decode cX5_lawBound 15 = .ok (.getfield 10, 3) := by decide +kernel
theorem dX5_lawBound_18 : decode cX5_lawBound 18 = .ok (.invokevirtual 87, 3) := by decide +kernel
theorem dX5_lawBound_21 : decode cX5_lawBound 21 = .ok (.isub, 1) := by decide +kernel
theorem dX5_lawBound_22 : decode cX5_lawBound 22 = .ok (.imul, 1) := by decide +kernel
theorem dX5_lawBound_23 : decode cX5_lawBound 23 = .ok (.ireturn, 1) := by decide +kernel
set_option maxRecDepth 20000 in
theorem ggX5_isResult_X3_differingBlocks : GoodIn wsX5_isResult wsX3_differingBlocks := goodIn_r _ [6, 7, 8, 9, 10, 11, 12, 33, 34, 35, 36, 37, 38, 39, 40] (by decide +kernel) (by decide +kernel)
set_option maxRecDepth 20000 in
theorem gX5_isResult_X3_differingBlocks_n219 : GoodIn wsX5_isResult (wsX3_differingBlocks) := ggX5_isResult_X3_differingBlocks
set_option maxRecDepth 20000 in
theorem ggX5_isResult_J13_bitCount_95d88 : GoodIn wsX5_isResult wsJ13_bitCount_95d88 := goodIn_r _ [16, 17, 18, 19] (by decide +kernel) (by decide +kernel)
set_option maxRecDepth 20000 in
theorem gX5_isResult_J13_bitCount_95d88 : GoodIn wsX5_isResult (va_wsS RX5 223 yJ13_bitCount_95d88 wsJ13_bitCount_95d88) := goodIn_app (goodIn_of _ (by decide +kernel)) ggX5_isResult_J13_bitCount_95d88
set_option maxRecDepth 20000 in
theorem ggX5_isResult_X4_outerDistance : GoodIn wsX5_isResult wsX4_outerDistance := goodIn_r _ [23, 24, 25, 41, 42, 43, 44, 45, 46, 47] (by decide +kernel) (by decide +kernel)
set_option maxRecDepth 20000 in
theorem gX5_isResult_X4_outerDistance_n87 : GoodIn wsX5_isResult (wsX4_outerDistance) := ggX5_isResult_X4_outerDistance
theorem dX5_isResult_0 : decode cX5_isResult 0 = .ok (.aload_n 0, 1) := by decide +kernel
theorem dX5_isResult_1 : decode cX5_isResult 1 = .ok (.getfield 40, 3) := by decide +kernel
theorem dX5_isResult_4 : decode cX5_isResult 4 = .ok (.lload_n 1, 1) := by decide +kernel
theorem dX5_isResult_5 : decode cX5_isResult 5 = .ok (.invokevirtual 219, 3) := by decide +kernel
theorem dX5_isResult_8 : decode cX5_isResult 8 = .ok (.lload 4, 2) := by decide +kernel
theorem dX5_isResult_10 : decode cX5_isResult 10 = .ok (.land, 1) := by decide +kernel
theorem dX5_isResult_11 : decode cX5_isResult 11 = .ok (.invokestatic 223, 3) := by decide +kernel
theorem dX5_isResult_14 : decode cX5_isResult 14 = .ok (.istore 6, 2) := by decide +kernel
theorem dX5_isResult_16 : decode cX5_isResult 16 = .ok (.iconst 2, 1) := by decide +kernel
theorem dX5_isResult_17 : decode cX5_isResult 17 = .ok (.iload 6, 2) := by decide +kernel
theorem dX5_isResult_19 : decode cX5_isResult 19 = .ok (.imul, 1) := by decide +kernel
theorem dX5_isResult_20 : decode cX5_isResult 20 = .ok (.iload_n 3, 1) := by decide +kernel
theorem dX5_isResult_21 : decode cX5_isResult 21 = .ok (.iadd, 1) := by decide +kernel
theorem dX5_isResult_22 : decode cX5_isResult 22 = .ok (.aload_n 0, 1) := by decide +kernel
theorem dX5_isResult_23 : decode cX5_isResult 23 = .ok (.getfield 10, 3) := by decide +kernel
theorem dX5_isResult_26 : decode cX5_isResult 26 = .ok (.invokevirtual 87, 3) := by decide +kernel
theorem dX5_isResult_29 : decode cX5_isResult 29 = .ok (.if_icmp .ge 7, 3) := by decide +kernel
theorem dX5_isResult_32 : decode cX5_isResult 32 = .ok (.iconst 1, 1) := by decide +kernel
theorem dX5_isResult_33 : decode cX5_isResult 33 = .ok (.goto 4, 3) := by decide +kernel
theorem dX5_isResult_36 : decode cX5_isResult 36 = .ok (.iconst 0, 1) := by decide +kernel
theorem dX5_isResult_37 : decode cX5_isResult 37 = .ok (.ireturn, 1) := by decide +kernel
set_option maxRecDepth 20000 in
theorem ggX5_lawfulMessage_X5_lawBound : GoodIn wsX5_lawfulMessage wsX5_lawBound := goodIn_r _ [8, 9, 1, 10, 11, 12, 13, 14, 15, 46, 47, 48, 49, 50, 51, 52, 53, 54, 55, 56, 57, 58, 59, 60, 61] (by decide +kernel) (by decide +kernel)
set_option maxRecDepth 20000 in
theorem gX5_lawfulMessage_X5_lawBound : GoodIn wsX5_lawfulMessage (wsV RX5 187 RX5 yX5_lawBound wsX5_lawBound) := goodIn_app (goodIn_of _ (by decide +kernel)) ggX5_lawfulMessage_X5_lawBound
set_option maxRecDepth 20000 in
theorem ggX5_lawfulMessage_X4_outerDistance : GoodIn wsX5_lawfulMessage wsX4_outerDistance := goodIn_r _ [13, 14, 15, 55, 56, 57, 58, 59, 60, 61] (by decide +kernel) (by decide +kernel)
set_option maxRecDepth 20000 in
theorem gX5_lawfulMessage_X4_outerDistance_n87 : GoodIn wsX5_lawfulMessage (wsX4_outerDistance) := ggX5_lawfulMessage_X4_outerDistance
set_option maxRecDepth 20000 in
theorem ggX5_lawfulMessage_X4_messages : GoodIn wsX5_lawfulMessage wsX4_messages := goodIn_r _ [18, 15, 55, 56, 57, 58, 59, 60, 61] (by decide +kernel) (by decide +kernel)
set_option maxRecDepth 20000 in
theorem gX5_lawfulMessage_X4_messages_n176 : GoodIn wsX5_lawfulMessage (wsX4_messages) := ggX5_lawfulMessage_X4_messages
set_option maxRecDepth 20000 in
theorem ggX5_lawfulMessage_X2_codeword : GoodIn wsX5_lawfulMessage wsX2_codeword := goodIn_r _ [22, 23, 62] (by decide +kernel) (by decide +kernel)
set_option maxRecDepth 20000 in
theorem gX5_lawfulMessage_X2_codeword_n114 : GoodIn wsX5_lawfulMessage (wsX2_codeword) := ggX5_lawfulMessage_X2_codeword
set_option maxRecDepth 20000 in
theorem ggX5_lawfulMessage_X3_differingBlocks : GoodIn wsX5_lawfulMessage wsX3_differingBlocks := goodIn_r _ [27, 28, 29, 30, 20, 31, 32, 63, 64, 65, 66, 67, 68, 69, 70] (by decide +kernel) (by decide +kernel)
set_option maxRecDepth 20000 in
theorem gX5_lawfulMessage_X3_differingBlocks_n219 : GoodIn wsX5_lawfulMessage (wsX3_differingBlocks) := ggX5_lawfulMessage_X3_differingBlocks
set_option maxRecDepth 20000 in
theorem ggX5_lawfulMessage_J13_bitCount_95d88 : GoodIn wsX5_lawfulMessage wsJ13_bitCount_95d88 := goodIn_r _ [36, 37, 38, 39] (by decide +kernel) (by decide +kernel)
set_option maxRecDepth 20000 in
theorem gX5_lawfulMessage_J13_bitCount_95d88 : GoodIn wsX5_lawfulMessage (va_wsS RX5 223 yJ13_bitCount_95d88 wsJ13_bitCount_95d88) := goodIn_app (goodIn_of _ (by decide +kernel)) ggX5_lawfulMessage_J13_bitCount_95d88
set_option maxRecDepth 20000 in
theorem ggX5_lawfulMessage_X3_scoreOf : GoodIn wsX5_lawfulMessage wsX3_scoreOf := goodIn_r _ [42, 43, 44, 45, 24, 26, 25, 27, 28, 29, 30, 20, 31, 32, 63, 64, 65, 66, 67, 68, 69, 70] (by decide +kernel) (by decide +kernel)
set_option maxRecDepth 20000 in
theorem gX5_lawfulMessage_X3_scoreOf_n183 : GoodIn wsX5_lawfulMessage (wsX3_scoreOf) := ggX5_lawfulMessage_X3_scoreOf
theorem dX5_lawfulMessage_0 : decode cX5_lawfulMessage 0 = .ok (.aload_n 0, 1) := by decide +kernel
theorem dX5_lawfulMessage_1 : decode cX5_lawfulMessage 1 = .ok (.invokevirtual 187, 3) := by decide +kernel
theorem dX5_lawfulMessage_4 : decode cX5_lawfulMessage 4 = .ok (.istore_n 1, 1) := by decide +kernel
theorem dX5_lawfulMessage_5 : decode cX5_lawfulMessage 5 = .ok (.aload_n 0, 1) := by decide +kernel
theorem dX5_lawfulMessage_6 : decode cX5_lawfulMessage 6 = .ok (.getfield 10, 3) := by decide +kernel
theorem dX5_lawfulMessage_9 : decode cX5_lawfulMessage 9 = .ok (.invokevirtual 87, 3) := by decide +kernel
theorem dX5_lawfulMessage_12 : decode cX5_lawfulMessage 12 = .ok (.istore_n 2, 1) := by decide +kernel
theorem dX5_lawfulMessage_13 : decode cX5_lawfulMessage 13 = .ok (.aload_n 0, 1) := by decide +kernel
theorem dX5_lawfulMessage_14 : decode cX5_lawfulMessage 14 = .ok (.getfield 10, 3) := by decide +kernel
theorem dX5_lawfulMessage_17 : decode cX5_lawfulMessage 17 = .ok (.invokevirtual 176, 3) := by decide +kernel
theorem dX5_lawfulMessage_20 : decode cX5_lawfulMessage 20 = .ok (.istore_n 3, 1) := by decide +kernel
theorem dX5_lawfulMessage_21 : decode cX5_lawfulMessage 21 = .ok (.iconst 0, 1) := by decide +kernel
theorem dX5_lawfulMessage_22 : decode cX5_lawfulMessage 22 = .ok (.istore 4, 2) := by decide +kernel
theorem dX5_lawfulMessage_24 : decode cX5_lawfulMessage 24 = .ok (.iload 4, 2) := by decide +kernel
theorem dX5_lawfulMessage_26 : decode cX5_lawfulMessage 26 = .ok (.iload_n 3, 1) := by decide +kernel
theorem dX5_lawfulMessage_27 : decode cX5_lawfulMessage 27 = .ok (.if_icmp .ge 52, 3) := by decide +kernel
theorem dX5_lawfulMessage_30 : decode cX5_lawfulMessage 30 = .ok (.aload_n 0, 1) := by decide +kernel
theorem dX5_lawfulMessage_31 : decode cX5_lawfulMessage 31 = .ok (.getfield 33, 3) := by decide +kernel
theorem dX5_lawfulMessage_34 : decode cX5_lawfulMessage 34 = .ok (.iload 4, 2) := by decide +kernel
theorem dX5_lawfulMessage_36 : decode cX5_lawfulMessage 36 = .ok (.invokevirtual 114, 3) := by decide +kernel
theorem dX5_lawfulMessage_39 : decode cX5_lawfulMessage 39 = .ok (.lstore 5, 2) := by decide +kernel
theorem dX5_lawfulMessage_41 : decode cX5_lawfulMessage 41 = .ok (.aload_n 0, 1) := by decide +kernel
theorem dX5_lawfulMessage_42 : decode cX5_lawfulMessage 42 = .ok (.getfield 40, 3) := by decide +kernel
theorem dX5_lawfulMessage_45 : decode cX5_lawfulMessage 45 = .ok (.lload 5, 2) := by decide +kernel
theorem dX5_lawfulMessage_47 : decode cX5_lawfulMessage 47 = .ok (.invokevirtual 219, 3) := by decide +kernel
theorem dX5_lawfulMessage_50 : decode cX5_lawfulMessage 50 = .ok (.invokestatic 223, 3) := by decide +kernel
theorem dX5_lawfulMessage_53 : decode cX5_lawfulMessage 53 = .ok (.iload_n 2, 1) := by decide +kernel
theorem dX5_lawfulMessage_54 : decode cX5_lawfulMessage 54 = .ok (.if_icmp .ge 19, 3) := by decide +kernel
theorem dX5_lawfulMessage_57 : decode cX5_lawfulMessage 57 = .ok (.aload_n 0, 1) := by decide +kernel
theorem dX5_lawfulMessage_58 : decode cX5_lawfulMessage 58 = .ok (.getfield 40, 3) := by decide +kernel
theorem dX5_lawfulMessage_61 : decode cX5_lawfulMessage 61 = .ok (.lload 5, 2) := by decide +kernel
theorem dX5_lawfulMessage_63 : decode cX5_lawfulMessage 63 = .ok (.invokevirtual 183, 3) := by decide +kernel
theorem dX5_lawfulMessage_66 : decode cX5_lawfulMessage 66 = .ok (.iload_n 1, 1) := by decide +kernel
theorem dX5_lawfulMessage_67 : decode cX5_lawfulMessage 67 = .ok (.if_icmp .le 6, 3) := by decide +kernel
theorem dX5_lawfulMessage_70 : decode cX5_lawfulMessage 70 = .ok (.iload 4, 2) := by decide +kernel
theorem dX5_lawfulMessage_72 : decode cX5_lawfulMessage 72 = .ok (.ireturn, 1) := by decide +kernel
theorem dX5_lawfulMessage_73 : decode cX5_lawfulMessage 73 = .ok (.iinc 4 1, 3) := by decide +kernel
theorem dX5_lawfulMessage_76 : decode cX5_lawfulMessage 76 = .ok (.goto (-52), 3) := by decide +kernel
theorem dX5_lawfulMessage_79 : decode cX5_lawfulMessage 79 = .ok (.iconst (-1), 1) := by decide +kernel
theorem dX5_lawfulMessage_80 : decode cX5_lawfulMessage 80 = .ok (.ireturn, 1) := by decide +kernel
set_option maxRecDepth 20000 in
theorem ggX5_partInSentScore_X5_sentSymbol : GoodIn wsX5_partInSentScore wsX5_sentSymbol := goodIn_r _ [6, 7, 8, 9, 10, 11, 12, 13, 14, 15, 5, 16, 17, 18, 19, 20, 21, 22, 23, 32, 33, 34, 35, 36, 37, 38, 39] (by decide +kernel) (by decide +kernel)
set_option maxRecDepth 20000 in
theorem gX5_partInSentScore_X5_sentSymbol : GoodIn wsX5_partInSentScore (wsV RX5 164 RX5 yX5_sentSymbol wsX5_sentSymbol) := goodIn_app (goodIn_of _ (by decide +kernel)) ggX5_partInSentScore_X5_sentSymbol
theorem dX5_partInSentScore_0 : decode cX5_partInSentScore 0 = .ok (.aload_n 0, 1) := by decide +kernel
theorem dX5_partInSentScore_1 : decode cX5_partInSentScore 1 = .ok (.getfield 40, 3) := by decide +kernel
theorem dX5_partInSentScore_4 : decode cX5_partInSentScore 4 = .ok (.getfield 158, 3) := by decide +kernel
theorem dX5_partInSentScore_7 : decode cX5_partInSentScore 7 = .ok (.iload_n 1, 1) := by decide +kernel
theorem dX5_partInSentScore_8 : decode cX5_partInSentScore 8 = .ok (.iaload, 1) := by decide +kernel
theorem dX5_partInSentScore_9 : decode cX5_partInSentScore 9 = .ok (.istore_n 2, 1) := by decide +kernel
theorem dX5_partInSentScore_10 : decode cX5_partInSentScore 10 = .ok (.aload_n 0, 1) := by decide +kernel
theorem dX5_partInSentScore_11 : decode cX5_partInSentScore 11 = .ok (.getfield 40, 3) := by decide +kernel
theorem dX5_partInSentScore_14 : decode cX5_partInSentScore 14 = .ok (.getfield 155, 3) := by decide +kernel
theorem dX5_partInSentScore_17 : decode cX5_partInSentScore 17 = .ok (.iload_n 1, 1) := by decide +kernel
theorem dX5_partInSentScore_18 : decode cX5_partInSentScore 18 = .ok (.iaload, 1) := by decide +kernel
theorem dX5_partInSentScore_19 : decode cX5_partInSentScore 19 = .ok (.aload_n 0, 1) := by decide +kernel
theorem dX5_partInSentScore_20 : decode cX5_partInSentScore 20 = .ok (.iload_n 1, 1) := by decide +kernel
theorem dX5_partInSentScore_21 : decode cX5_partInSentScore 21 = .ok (.invokevirtual 164, 3) := by decide +kernel
theorem dX5_partInSentScore_24 : decode cX5_partInSentScore 24 = .ok (.if_icmp .ne 7, 3) := by decide +kernel
theorem dX5_partInSentScore_27 : decode cX5_partInSentScore 27 = .ok (.iload_n 2, 1) := by decide +kernel
theorem dX5_partInSentScore_28 : decode cX5_partInSentScore 28 = .ok (.goto 5, 3) := by decide +kernel
theorem dX5_partInSentScore_31 : decode cX5_partInSentScore 31 = .ok (.iload_n 2, 1) := by decide +kernel
theorem dX5_partInSentScore_32 : decode cX5_partInSentScore 32 = .ok (.ineg, 1) := by decide +kernel
theorem dX5_partInSentScore_33 : decode cX5_partInSentScore 33 = .ok (.ireturn, 1) := by decide +kernel
set_option maxRecDepth 20000 in
theorem ggX5_fragileBitsOf_X5_sentSymbol : GoodIn wsX5_fragileBitsOf wsX5_sentSymbol := goodIn_r _ [9, 2, 3, 10, 11, 12, 13, 14, 15, 16, 8, 17, 71, 72, 73, 74, 75, 76, 77, 78, 79, 80, 81, 82, 83, 84, 85] (by decide +kernel) (by decide +kernel)
set_option maxRecDepth 20000 in
theorem gX5_fragileBitsOf_X5_sentSymbol : GoodIn wsX5_fragileBitsOf (wsV RX5 164 RX5 yX5_sentSymbol wsX5_sentSymbol) := goodIn_app (goodIn_of _ (by decide +kernel)) ggX5_fragileBitsOf_X5_sentSymbol
set_option maxRecDepth 20000 in
theorem ggX5_fragileBitsOf_X2_codeword : GoodIn wsX5_fragileBitsOf wsX2_codeword := goodIn_r _ [13, 14, 85] (by decide +kernel) (by decide +kernel)
set_option maxRecDepth 20000 in
theorem gX5_fragileBitsOf_X2_codeword_n114 : GoodIn wsX5_fragileBitsOf (wsX2_codeword) := ggX5_fragileBitsOf_X2_codeword
set_option maxRecDepth 20000 in
theorem ggX5_fragileBitsOf_X3_scoreOf : GoodIn wsX5_fragileBitsOf wsX3_scoreOf := goodIn_r _ [21, 22, 23, 24, 25, 26, 19, 27, 28, 29, 30, 11, 31, 32, 86, 87, 88, 89, 90, 91, 92, 93] (by decide +kernel) (by decide +kernel)
set_option maxRecDepth 20000 in
theorem gX5_fragileBitsOf_X3_scoreOf_n183 : GoodIn wsX5_fragileBitsOf (wsX3_scoreOf) := ggX5_fragileBitsOf_X3_scoreOf
set_option maxRecDepth 20000 in
theorem ggX5_fragileBitsOf_X5_partInSentScore : GoodIn wsX5_fragileBitsOf wsX5_partInSentScore := goodIn_r _ [36, 1, 5, 6, 7, 8, 9, 2, 3, 10, 11, 12, 13, 14, 15, 16, 17, 71, 72, 73, 74, 75, 76, 77, 86, 87, 88, 89, 90, 91, 92, 93, 78, 79, 80, 81, 82, 83, 84, 85] (by decide +kernel) (by decide +kernel)
set_option maxRecDepth 20000 in
theorem gX5_fragileBitsOf_X5_partInSentScore : GoodIn wsX5_fragileBitsOf (wsV RX5 193 RX5 yX5_partInSentScore wsX5_partInSentScore) := goodIn_app (goodIn_of _ (by decide +kernel)) ggX5_fragileBitsOf_X5_partInSentScore
set_option maxRecDepth 20000 in
theorem ggX5_fragileBitsOf_X1_symbolOf : GoodIn wsX5_fragileBitsOf wsX1_symbolOf := goodIn_r _ [40, 41, 42, 43, 38, 44, 45, 46, 47, 48, 49, 50, 51, 52, 94, 95] (by decide +kernel) (by decide +kernel)
set_option maxRecDepth 20000 in
theorem gX5_fragileBitsOf_X1_symbolOf_n227 : GoodIn wsX5_fragileBitsOf (wsX1_symbolOf) := ggX5_fragileBitsOf_X1_symbolOf
set_option maxRecDepth 20000 in
theorem ggX5_fragileBitsOf_X1_bitsBetween : GoodIn wsX5_fragileBitsOf wsX1_bitsBetween := goodIn_r _ [44, 45, 46, 47, 48, 49, 50, 51, 52, 94, 95] (by decide +kernel) (by decide +kernel)
set_option maxRecDepth 20000 in
theorem gX5_fragileBitsOf_X1_bitsBetween_n230 : GoodIn wsX5_fragileBitsOf (wsX1_bitsBetween) := ggX5_fragileBitsOf_X1_bitsBetween
set_option maxRecDepth 20000 in
theorem ggX5_fragileBitsOf_X1_reliability : GoodIn wsX5_fragileBitsOf wsX1_reliability := goodIn_r _ [55, 56, 57, 58, 59, 60, 94, 95] (by decide +kernel) (by decide +kernel)
set_option maxRecDepth 20000 in
theorem gX5_fragileBitsOf_X1_reliability_n233 : GoodIn wsX5_fragileBitsOf (wsX1_reliability) := ggX5_fragileBitsOf_X1_reliability
set_option maxRecDepth 20000 in
theorem ggX5_fragileBitsOf_X5_lawBound : GoodIn wsX5_fragileBitsOf wsX5_lawBound := goodIn_r _ [64, 4, 3, 65, 66, 67, 68, 69, 70, 71, 72, 73, 74, 75, 76, 77, 94, 95, 78, 79, 80, 81, 82, 83, 84] (by decide +kernel) (by decide +kernel)
set_option maxRecDepth 20000 in
theorem gX5_fragileBitsOf_X5_lawBound : GoodIn wsX5_fragileBitsOf (wsV RX5 187 RX5 yX5_lawBound wsX5_lawBound) := goodIn_app (goodIn_of _ (by decide +kernel)) ggX5_fragileBitsOf_X5_lawBound
theorem dX5_fragileBitsOf_0 : decode cX5_fragileBitsOf 0 = .ok (.aload_n 0, 1) := by decide +kernel
theorem dX5_fragileBitsOf_1 : decode cX5_fragileBitsOf 1 = .ok (.iload_n 1, 1) := by decide +kernel
theorem dX5_fragileBitsOf_2 : decode cX5_fragileBitsOf 2 = .ok (.invokevirtual 164, 3) := by decide +kernel
theorem dX5_fragileBitsOf_5 : decode cX5_fragileBitsOf 5 = .ok (.istore_n 2, 1) := by decide +kernel
theorem dX5_fragileBitsOf_6 : decode cX5_fragileBitsOf 6 = .ok (.aload_n 0, 1) := by decide +kernel
theorem dX5_fragileBitsOf_7 : decode cX5_fragileBitsOf 7 = .ok (.getfield 40, 3) := by decide +kernel
theorem dX5_fragileBitsOf_10 : decode cX5_fragileBitsOf 10 = .ok (.aload_n 0, 1) := by decide +kernel
theorem dX5_fragileBitsOf_11 : decode cX5_fragileBitsOf 11 = .ok (.getfield 33, 3) := by decide +kernel
theorem dX5_fragileBitsOf_14 : decode cX5_fragileBitsOf 14 = .ok (.aload_n 0, 1) := by decide +kernel
theorem dX5_fragileBitsOf_15 : decode cX5_fragileBitsOf 15 = .ok (.getfield 10, 3) := by decide +kernel
theorem dX5_fragileBitsOf_18 : decode cX5_fragileBitsOf 18 = .ok (.getfield 122, 3) := by decide +kernel
theorem dX5_fragileBitsOf_21 : decode cX5_fragileBitsOf 21 = .ok (.invokevirtual 114, 3) := by decide +kernel
theorem dX5_fragileBitsOf_24 : decode cX5_fragileBitsOf 24 = .ok (.invokevirtual 183, 3) := by decide +kernel
theorem dX5_fragileBitsOf_27 : decode cX5_fragileBitsOf 27 = .ok (.aload_n 0, 1) := by decide +kernel
theorem dX5_fragileBitsOf_28 : decode cX5_fragileBitsOf 28 = .ok (.iload_n 1, 1) := by decide +kernel
theorem dX5_fragileBitsOf_29 : decode cX5_fragileBitsOf 29 = .ok (.invokevirtual 193, 3) := by decide +kernel
theorem dX5_fragileBitsOf_32 : decode cX5_fragileBitsOf 32 = .ok (.isub, 1) := by decide +kernel
theorem dX5_fragileBitsOf_33 : decode cX5_fragileBitsOf 33 = .ok (.istore_n 3, 1) := by decide +kernel
theorem dX5_fragileBitsOf_34 : decode cX5_fragileBitsOf 34 = .ok (.iconst 0, 1) := by decide +kernel
theorem dX5_fragileBitsOf_35 : decode cX5_fragileBitsOf 35 = .ok (.istore 4, 2) := by decide +kernel
theorem dX5_fragileBitsOf_37 : decode cX5_fragileBitsOf 37 = .ok (.iconst 0, 1) := by decide +kernel
theorem dX5_fragileBitsOf_38 : decode cX5_fragileBitsOf 38 = .ok (.istore 5, 2) := by decide +kernel
theorem dX5_fragileBitsOf_40 : decode cX5_fragileBitsOf 40 = .ok (.iload 5, 2) := by decide +kernel
theorem dX5_fragileBitsOf_42 : decode cX5_fragileBitsOf 42 = .ok (.aload_n 0, 1) := by decide +kernel
theorem dX5_fragileBitsOf_43 : decode cX5_fragileBitsOf 43 = .ok (.getfield 10, 3) := by decide +kernel
theorem dX5_fragileBitsOf_46 : decode cX5_fragileBitsOf 46 = .ok (.getfield 72, 3) := by decide +kernel
theorem dX5_fragileBitsOf_49 : decode cX5_fragileBitsOf 49 = .ok (.if_icmp .ge 86, 3) := by decide +kernel
theorem dX5_fragileBitsOf_52 : decode cX5_fragileBitsOf 52 = .ok (.aload_n 0, 1) := by decide +kernel
theorem dX5_fragileBitsOf_53 : decode cX5_fragileBitsOf 53 = .ok (.getfield 10, 3) := by decide +kernel
theorem dX5_fragileBitsOf_56 : decode cX5_fragileBitsOf 56 = .ok (.getfield 128, 3) := by decide +kernel
theorem dX5_fragileBitsOf_59 : decode cX5_fragileBitsOf 59 = .ok (.iload_n 1, 1) := by decide +kernel
theorem dX5_fragileBitsOf_60 : decode cX5_fragileBitsOf 60 = .ok (.iaload, 1) := by decide +kernel
theorem dX5_fragileBitsOf_61 : decode cX5_fragileBitsOf 61 = .ok (.iconst 1, 1) := by decide +kernel
theorem dX5_fragileBitsOf_62 : decode cX5_fragileBitsOf 62 = .ok (.iload 5, 2) := by decide +kernel
theorem dX5_fragileBitsOf_64 : decode cX5_fragileBitsOf 64 = .ok (.ishl, 1) := by decide +kernel
theorem dX5_fragileBitsOf_65 : decode cX5_fragileBitsOf 65 = .ok (.ixor, 1) := by decide +kernel
theorem dX5_fragileBitsOf_66 : decode cX5_fragileBitsOf 66 = .ok (.istore 6, 2) := by decide +kernel
theorem dX5_fragileBitsOf_68 : decode cX5_fragileBitsOf 68 = .ok (.aload_n 0, 1) := by decide +kernel
theorem dX5_fragileBitsOf_69 : decode cX5_fragileBitsOf 69 = .ok (.getfield 26, 3) := by decide +kernel
theorem dX5_fragileBitsOf_72 : decode cX5_fragileBitsOf 72 = .ok (.iload 6, 2) := by decide +kernel
theorem dX5_fragileBitsOf_74 : decode cX5_fragileBitsOf 74 = .ok (.invokevirtual 227, 3) := by decide +kernel
theorem dX5_fragileBitsOf_77 : decode cX5_fragileBitsOf 77 = .ok (.istore 7, 2) := by decide +kernel
theorem dX5_fragileBitsOf_79 : decode cX5_fragileBitsOf 79 = .ok (.aload_n 0, 1) := by decide +kernel
theorem dX5_fragileBitsOf_80 : decode cX5_fragileBitsOf 80 = .ok (.getfield 26, 3) := by decide +kernel
theorem dX5_fragileBitsOf_83 : decode cX5_fragileBitsOf 83 = .ok (.aload_n 0, 1) := by decide +kernel
theorem dX5_fragileBitsOf_84 : decode cX5_fragileBitsOf 84 = .ok (.getfield 26, 3) := by decide +kernel
theorem dX5_fragileBitsOf_87 : decode cX5_fragileBitsOf 87 = .ok (.iload 6, 2) := by decide +kernel
theorem dX5_fragileBitsOf_89 : decode cX5_fragileBitsOf 89 = .ok (.iload 7, 2) := by decide +kernel
theorem dX5_fragileBitsOf_91 : decode cX5_fragileBitsOf 91 = .ok (.invokevirtual 230, 3) := by decide +kernel
theorem dX5_fragileBitsOf_94 : decode cX5_fragileBitsOf 94 = .ok (.invokevirtual 233, 3) := by decide +kernel
theorem dX5_fragileBitsOf_97 : decode cX5_fragileBitsOf 97 = .ok (.istore 8, 2) := by decide +kernel
theorem dX5_fragileBitsOf_99 : decode cX5_fragileBitsOf 99 = .ok (.iload 7, 2) := by decide +kernel
theorem dX5_fragileBitsOf_101 : decode cX5_fragileBitsOf 101 = .ok (.iload_n 2, 1) := by decide +kernel
theorem dX5_fragileBitsOf_102 : decode cX5_fragileBitsOf 102 = .ok (.if_icmp .ne 8, 3) := by decide +kernel
theorem dX5_fragileBitsOf_105 : decode cX5_fragileBitsOf 105 = .ok (.iload 8, 2) := by decide +kernel
theorem dX5_fragileBitsOf_107 : decode cX5_fragileBitsOf 107 = .ok (.goto 6, 3) := by decide +kernel
theorem dX5_fragileBitsOf_110 : decode cX5_fragileBitsOf 110 = .ok (.iload 8, 2) := by decide +kernel
theorem dX5_fragileBitsOf_112 : decode cX5_fragileBitsOf 112 = .ok (.ineg, 1) := by decide +kernel
theorem dX5_fragileBitsOf_113 : decode cX5_fragileBitsOf 113 = .ok (.istore 9, 2) := by decide +kernel
theorem dX5_fragileBitsOf_115 : decode cX5_fragileBitsOf 115 = .ok (.iload_n 3, 1) := by decide +kernel
theorem dX5_fragileBitsOf_116 : decode cX5_fragileBitsOf 116 = .ok (.iload 9, 2) := by decide +kernel
theorem dX5_fragileBitsOf_118 : decode cX5_fragileBitsOf 118 = .ok (.iadd, 1) := by decide +kernel
theorem dX5_fragileBitsOf_119 : decode cX5_fragileBitsOf 119 = .ok (.aload_n 0, 1) := by decide +kernel
theorem dX5_fragileBitsOf_120 : decode cX5_fragileBitsOf 120 = .ok (.invokevirtual 187, 3) := by decide +kernel
theorem dX5_fragileBitsOf_123 : decode cX5_fragileBitsOf 123 = .ok (.if_icmp .gt 6, 3) := by decide +kernel
theorem dX5_fragileBitsOf_126 : decode cX5_fragileBitsOf 126 = .ok (.iinc 4 1, 3) := by decide +kernel
theorem dX5_fragileBitsOf_129 : decode cX5_fragileBitsOf 129 = .ok (.iinc 5 1, 3) := by decide +kernel
theorem dX5_fragileBitsOf_132 : decode cX5_fragileBitsOf 132 = .ok (.goto (-92), 3) := by decide +kernel
theorem dX5_fragileBitsOf_135 : decode cX5_fragileBitsOf 135 = .ok (.iload 4, 2) := by decide +kernel
theorem dX5_fragileBitsOf_137 : decode cX5_fragileBitsOf 137 = .ok (.ireturn, 1) := by decide +kernel
set_option maxRecDepth 20000 in
theorem ggX5_nearestMessage_X2_codeword : GoodIn wsX5_nearestMessage wsX2_codeword := goodIn_r _ [6, 7, 43] (by decide +kernel) (by decide +kernel)
set_option maxRecDepth 20000 in
theorem gX5_nearestMessage_X2_codeword_n114 : GoodIn wsX5_nearestMessage (wsX2_codeword) := ggX5_nearestMessage_X2_codeword
set_option maxRecDepth 20000 in
theorem ggX5_nearestMessage_X4_messages : GoodIn wsX5_nearestMessage wsX4_messages := goodIn_r _ [11, 12, 36, 37, 38, 39, 40, 41, 42] (by decide +kernel) (by decide +kernel)
set_option maxRecDepth 20000 in
theorem gX5_nearestMessage_X4_messages_n176 : GoodIn wsX5_nearestMessage (wsX4_messages) := ggX5_nearestMessage_X4_messages
set_option maxRecDepth 20000 in
theorem ggX5_nearestMessage_X2_markSymbols : GoodIn wsX5_nearestMessage wsX2_markSymbols := goodIn_r _ [14, 15] (by decide +kernel) (by decide +kernel)
set_option maxRecDepth 20000 in
theorem gX5_nearestMessage_X2_markSymbols_n236 : GoodIn wsX5_nearestMessage (wsX2_markSymbols) := ggX5_nearestMessage_X2_markSymbols
set_option maxRecDepth 20000 in
theorem ggX5_nearestMessage_X2_marks : GoodIn wsX5_nearestMessage wsX2_marks := goodIn_r _ [17, 15] (by decide +kernel) (by decide +kernel)
set_option maxRecDepth 20000 in
theorem gX5_nearestMessage_X2_marks_n239 : GoodIn wsX5_nearestMessage (wsX2_marks) := ggX5_nearestMessage_X2_marks
set_option maxRecDepth 20000 in
theorem ggX5_nearestMessage_J13_bitCount_95d88 : GoodIn wsX5_nearestMessage wsJ13_bitCount_95d88 := goodIn_r _ [21, 22, 23, 24] (by decide +kernel) (by decide +kernel)
set_option maxRecDepth 20000 in
theorem gX5_nearestMessage_J13_bitCount_95d88 : GoodIn wsX5_nearestMessage (va_wsS RX5 223 yJ13_bitCount_95d88 wsJ13_bitCount_95d88) := goodIn_app (goodIn_of _ (by decide +kernel)) ggX5_nearestMessage_J13_bitCount_95d88
set_option maxRecDepth 20000 in
theorem ggX5_nearestMessage_X4_outerDistance : GoodIn wsX5_nearestMessage wsX4_outerDistance := goodIn_r _ [27, 28, 12, 36, 37, 38, 39, 40, 41, 42] (by decide +kernel) (by decide +kernel)
set_option maxRecDepth 20000 in
theorem gX5_nearestMessage_X4_outerDistance_n87 : GoodIn wsX5_nearestMessage (wsX4_outerDistance) := ggX5_nearestMessage_X4_outerDistance
theorem dX5_nearestMessage_0 : decode cX5_nearestMessage 0 = .ok (.aload_n 0, 1) := by decide +kernel
theorem dX5_nearestMessage_1 : decode cX5_nearestMessage 1 = .ok (.getfield 33, 3) := by decide +kernel
theorem dX5_nearestMessage_4 : decode cX5_nearestMessage 4 = .ok (.iload_n 1, 1) := by decide +kernel
theorem dX5_nearestMessage_5 : decode cX5_nearestMessage 5 = .ok (.invokevirtual 114, 3) := by decide +kernel
theorem dX5_nearestMessage_8 : decode cX5_nearestMessage 8 = .ok (.lstore_n 2, 1) := by decide +kernel
theorem dX5_nearestMessage_9 : decode cX5_nearestMessage 9 = .ok (.aload_n 0, 1) := by decide +kernel
theorem dX5_nearestMessage_10 : decode cX5_nearestMessage 10 = .ok (.getfield 10, 3) := by decide +kernel
theorem dX5_nearestMessage_13 : decode cX5_nearestMessage 13 = .ok (.invokevirtual 176, 3) := by decide +kernel
theorem dX5_nearestMessage_16 : decode cX5_nearestMessage 16 = .ok (.istore 4, 2) := by decide +kernel
theorem dX5_nearestMessage_18 : decode cX5_nearestMessage 18 = .ok (.iconst 0, 1) := by decide +kernel
theorem dX5_nearestMessage_19 : decode cX5_nearestMessage 19 = .ok (.istore 5, 2) := by decide +kernel
theorem dX5_nearestMessage_21 : decode cX5_nearestMessage 21 = .ok (.iload 5, 2) := by decide +kernel
theorem dX5_nearestMessage_23 : decode cX5_nearestMessage 23 = .ok (.iload 4, 2) := by decide +kernel
theorem dX5_nearestMessage_25 : decode cX5_nearestMessage 25 = .ok (.if_icmp .ge 58, 3) := by decide +kernel
theorem dX5_nearestMessage_28 : decode cX5_nearestMessage 28 = .ok (.lload_n 2, 1) := by decide +kernel
theorem dX5_nearestMessage_29 : decode cX5_nearestMessage 29 = .ok (.aload_n 0, 1) := by decide +kernel
theorem dX5_nearestMessage_30 : decode cX5_nearestMessage 30 = .ok (.getfield 33, 3) := by decide +kernel
theorem dX5_nearestMessage_33 : decode cX5_nearestMessage 33 = .ok (.iload 5, 2) := by decide +kernel
theorem dX5_nearestMessage_35 : decode cX5_nearestMessage 35 = .ok (.invokevirtual 114, 3) := by decide +kernel
theorem dX5_nearestMessage_38 : decode cX5_nearestMessage 38 = .ok (.lxor, 1) := by decide +kernel
theorem dX5_nearestMessage_39 : decode cX5_nearestMessage 39 = .ok (.invokestatic 236, 3) := by decide +kernel
theorem dX5_nearestMessage_42 : decode cX5_nearestMessage 42 = .ok (.lstore 6, 2) := by decide +kernel
theorem dX5_nearestMessage_44 : decode cX5_nearestMessage 44 = .ok (.lload 6, 2) := by decide +kernel
theorem dX5_nearestMessage_46 : decode cX5_nearestMessage 46 = .ok (.aload_n 0, 1) := by decide +kernel
theorem dX5_nearestMessage_47 : decode cX5_nearestMessage 47 = .ok (.getfield 10, 3) := by decide +kernel
theorem dX5_nearestMessage_50 : decode cX5_nearestMessage 50 = .ok (.getfield 55, 3) := by decide +kernel
theorem dX5_nearestMessage_53 : decode cX5_nearestMessage 53 = .ok (.invokestatic 239, 3) := by decide +kernel
theorem dX5_nearestMessage_56 : decode cX5_nearestMessage 56 = .ok (.land, 1) := by decide +kernel
theorem dX5_nearestMessage_57 : decode cX5_nearestMessage 57 = .ok (.invokestatic 223, 3) := by decide +kernel
theorem dX5_nearestMessage_60 : decode cX5_nearestMessage 60 = .ok (.istore 8, 2) := by decide +kernel
theorem dX5_nearestMessage_62 : decode cX5_nearestMessage 62 = .ok (.iload 8, 2) := by decide +kernel
theorem dX5_nearestMessage_64 : decode cX5_nearestMessage 64 = .ok (.aload_n 0, 1) := by decide +kernel
theorem dX5_nearestMessage_65 : decode cX5_nearestMessage 65 = .ok (.getfield 10, 3) := by decide +kernel
theorem dX5_nearestMessage_68 : decode cX5_nearestMessage 68 = .ok (.invokevirtual 87, 3) := by decide +kernel
theorem dX5_nearestMessage_71 : decode cX5_nearestMessage 71 = .ok (.if_icmp .ne 6, 3) := by decide +kernel
theorem dX5_nearestMessage_74 : decode cX5_nearestMessage 74 = .ok (.iload 5, 2) := by decide +kernel
theorem dX5_nearestMessage_76 : decode cX5_nearestMessage 76 = .ok (.ireturn, 1) := by decide +kernel
theorem dX5_nearestMessage_77 : decode cX5_nearestMessage 77 = .ok (.iinc 5 1, 3) := by decide +kernel
theorem dX5_nearestMessage_80 : decode cX5_nearestMessage 80 = .ok (.goto (-59), 3) := by decide +kernel
theorem dX5_nearestMessage_83 : decode cX5_nearestMessage 83 = .ok (.sipush (-1004), 3) := by decide +kernel
theorem dX5_nearestMessage_86 : decode cX5_nearestMessage 86 = .ok (.ireturn, 1) := by decide +kernel
