theorem dX7_init_0 : decode cX7_init 0 = .ok (.aload_n 0, 1) := by decide +kernel
theorem dX7_init_1 : decode cX7_init 1 = .ok (.invokespecial 1, 3) := by decide +kernel
theorem dX7_init_4 : decode cX7_init 4 = .ok (.aload_n 0, 1) := by decide +kernel
theorem dX7_init_5 : decode cX7_init 5 = .ok (.new 7, 3) := by decide +kernel
theorem dX7_init_8 : decode cX7_init 8 = .ok (.dup, 1) := by decide +kernel
theorem dX7_init_9 : decode cX7_init 9 = .ok (.invokespecial 9, 3) := by decide +kernel
theorem dX7_init_12 : decode cX7_init 12 = .ok (.putfield 10, 3) := by decide +kernel
theorem dX7_init_15 : decode cX7_init 15 = .ok (.aload_n 0, 1) := by decide +kernel
theorem dX7_init_16 : decode cX7_init 16 = .ok (.new 16, 3) := by decide +kernel
theorem dX7_init_19 : decode cX7_init 19 = .ok (.dup, 1) := by decide +kernel
theorem dX7_init_20 : decode cX7_init 20 = .ok (.invokespecial 18, 3) := by decide +kernel
theorem dX7_init_23 : decode cX7_init 23 = .ok (.putfield 19, 3) := by decide +kernel
theorem dX7_init_26 : decode cX7_init 26 = .ok (.aload_n 0, 1) := by decide +kernel
theorem dX7_init_27 : decode cX7_init 27 = .ok (.new 23, 3) := by decide +kernel
theorem dX7_init_30 : decode cX7_init 30 = .ok (.dup, 1) := by decide +kernel
theorem dX7_init_31 : decode cX7_init 31 = .ok (.invokespecial 25, 3) := by decide +kernel
theorem dX7_init_34 : decode cX7_init 34 = .ok (.putfield 26, 3) := by decide +kernel
theorem dX7_init_37 : decode cX7_init 37 = .ok (.aload_n 0, 1) := by decide +kernel
theorem dX7_init_38 : decode cX7_init 38 = .ok (.iconst 2, 1) := by decide +kernel
theorem dX7_init_39 : decode cX7_init 39 = .ok (.anewarray 23, 3) := by decide +kernel
theorem dX7_init_42 : decode cX7_init 42 = .ok (.putfield 30, 3) := by decide +kernel
theorem dX7_init_45 : decode cX7_init 45 = .ok (.iconst 0, 1) := by decide +kernel
theorem dX7_init_46 : decode cX7_init 46 = .ok (.istore_n 1, 1) := by decide +kernel
theorem dX7_init_47 : decode cX7_init 47 = .ok (.iload_n 1, 1) := by decide +kernel
theorem dX7_init_48 : decode cX7_init 48 = .ok (.iconst 2, 1) := by decide +kernel
theorem dX7_init_49 : decode cX7_init 49 = .ok (.if_icmp .ge 22, 3) := by decide +kernel
theorem dX7_init_52 : decode cX7_init 52 = .ok (.aload_n 0, 1) := by decide +kernel
theorem dX7_init_53 : decode cX7_init 53 = .ok (.getfield 30, 3) := by decide +kernel
theorem dX7_init_56 : decode cX7_init 56 = .ok (.iload_n 1, 1) := by decide +kernel
theorem dX7_init_57 : decode cX7_init 57 = .ok (.new 23, 3) := by decide +kernel
theorem dX7_init_60 : decode cX7_init 60 = .ok (.dup, 1) := by decide +kernel
theorem dX7_init_61 : decode cX7_init 61 = .ok (.invokespecial 25, 3) := by decide +kernel
theorem dX7_init_64 : decode cX7_init 64 = .ok (.aastore, 1) := by decide +kernel
theorem dX7_init_65 : decode cX7_init 65 = .ok (.iinc 1 1, 3) := by decide +kernel
theorem dX7_init_68 : decode cX7_init 68 = .ok (.goto (-21), 3) := by decide +kernel
theorem dX7_init_71 : decode cX7_init 71 = .ok (.aload_n 0, 1) := by decide +kernel
theorem dX7_init_72 : decode cX7_init 72 = .ok (.iconst 2, 1) := by decide +kernel
theorem dX7_init_73 : decode cX7_init 73 = .ok (.newarray .boolean, 2) := by decide +kernel
theorem dX7_init_75 : decode cX7_init 75 = .ok (.putfield 34, 3) := by decide +kernel
theorem dX7_init_78 : decode cX7_init 78 = .ok (.aload_n 0, 1) := by decide +kernel
theorem dX7_init_79 : decode cX7_init 79 = .ok (.new 38, 3) := by decide +kernel
theorem dX7_init_82 : decode cX7_init 82 = .ok (.dup, 1) := by decide +kernel
theorem dX7_init_83 : decode cX7_init 83 = .ok (.invokespecial 40, 3) := by decide +kernel
theorem dX7_init_86 : decode cX7_init 86 = .ok (.putfield 41, 3) := by decide +kernel
theorem dX7_init_89 : decode cX7_init 89 = .ok (.aload_n 0, 1) := by decide +kernel
theorem dX7_init_90 : decode cX7_init 90 = .ok (.new 45, 3) := by decide +kernel
theorem dX7_init_93 : decode cX7_init 93 = .ok (.dup, 1) := by decide +kernel
theorem dX7_init_94 : decode cX7_init 94 = .ok (.invokespecial 47, 3) := by decide +kernel
theorem dX7_init_97 : decode cX7_init 97 = .ok (.putfield 48, 3) := by decide +kernel
theorem dX7_init_100 : decode cX7_init 100 = .ok (.aload_n 0, 1) := by decide +kernel
theorem dX7_init_101 : decode cX7_init 101 = .ok (.new 52, 3) := by decide +kernel
theorem dX7_init_104 : decode cX7_init 104 = .ok (.dup, 1) := by decide +kernel
theorem dX7_init_105 : decode cX7_init 105 = .ok (.invokespecial 54, 3) := by decide +kernel
theorem dX7_init_108 : decode cX7_init 108 = .ok (.putfield 55, 3) := by decide +kernel
theorem dX7_init_111 : decode cX7_init 111 = .ok (.aload_n 0, 1) := by decide +kernel
theorem dX7_init_112 : decode cX7_init 112 = .ok (.new 59, 3) := by decide +kernel
theorem dX7_init_115 : decode cX7_init 115 = .ok (.dup, 1) := by decide +kernel
theorem dX7_init_116 : decode cX7_init 116 = .ok (.invokespecial 61, 3) := by decide +kernel
theorem dX7_init_119 : decode cX7_init 119 = .ok (.putfield 62, 3) := by decide +kernel
theorem dX7_init_122 : decode cX7_init 122 = .ok (.aload_n 0, 1) := by decide +kernel
theorem dX7_init_123 : decode cX7_init 123 = .ok (.iconst (-1), 1) := by decide +kernel
theorem dX7_init_124 : decode cX7_init 124 = .ok (.putfield 66, 3) := by decide +kernel
theorem dX7_init_127 : decode cX7_init 127 = .ok (.return_, 1) := by decide +kernel
set_option maxRecDepth 20000 in
theorem ggX7_feed_X7_isOut : GoodIn wsX7_feed wsX7_isOut := goodIn_r _ [8] (by decide +kernel) (by decide +kernel)
set_option maxRecDepth 20000 in
theorem gX7_feed_X7_isOut : GoodIn wsX7_feed (va_wsS RX7 70 yX7_isOut wsX7_isOut) := goodIn_app (goodIn_of _ (by decide +kernel)) ggX7_feed_X7_isOut
set_option maxRecDepth 20000 in
theorem ggX7_feed_X3_isFull : GoodIn wsX7_feed wsX3_isFull := goodIn_r _ [13, 14, 31, 32, 33, 34, 35, 36, 37, 38, 39, 40] (by decide +kernel) (by decide +kernel)
set_option maxRecDepth 20000 in
theorem gX7_feed_X3_isFull : GoodIn wsX7_feed (wsV RX7 75 RX3 yX3_isFull wsX3_isFull) := goodIn_app (goodIn_of _ (by decide +kernel)) ggX7_feed_X3_isFull
set_option maxRecDepth 20000 in
theorem ggX7_feed_X3_add : GoodIn wsX7_feed wsX3_add := goodIn_r _ [18, 19, 14, 20, 10, 11, 12, 13, 31, 32, 33, 34, 35, 36, 37, 38, 39, 40] (by decide +kernel) (by decide +kernel)
set_option maxRecDepth 20000 in
theorem gX7_feed_X3_add : GoodIn wsX7_feed (wsV RX7 80 RX3 yX3_add wsX3_add) := goodIn_app (goodIn_of _ (by decide +kernel)) ggX7_feed_X3_add
theorem dX7_feed_0 : decode cX7_feed 0 = .ok (.iload_n 1, 1) := by decide +kernel
theorem dX7_feed_1 : decode cX7_feed 1 = .ok (.iconst 0, 1) := by decide +kernel
theorem dX7_feed_2 : decode cX7_feed 2 = .ok (.sipush 255, 3) := by decide +kernel
theorem dX7_feed_5 : decode cX7_feed 5 = .ok (.invokestatic 70, 3) := by decide +kernel
theorem dX7_feed_8 : decode cX7_feed 8 = .ok (.ifCond .eq 6, 3) := by decide +kernel
theorem dX7_feed_11 : decode cX7_feed 11 = .ok (.ldc 74, 2) := by decide +kernel
theorem dX7_feed_13 : decode cX7_feed 13 = .ok (.ireturn, 1) := by decide +kernel
theorem dX7_feed_14 : decode cX7_feed 14 = .ok (.aload_n 0, 1) := by decide +kernel
theorem dX7_feed_15 : decode cX7_feed 15 = .ok (.getfield 10, 3) := by decide +kernel
theorem dX7_feed_18 : decode cX7_feed 18 = .ok (.invokevirtual 75, 3) := by decide +kernel
theorem dX7_feed_21 : decode cX7_feed 21 = .ok (.ifCond .eq 6, 3) := by decide +kernel
theorem dX7_feed_24 : decode cX7_feed 24 = .ok (.ldc 79, 2) := by decide +kernel
theorem dX7_feed_26 : decode cX7_feed 26 = .ok (.ireturn, 1) := by decide +kernel
theorem dX7_feed_27 : decode cX7_feed 27 = .ok (.aload_n 0, 1) := by decide +kernel
theorem dX7_feed_28 : decode cX7_feed 28 = .ok (.getfield 10, 3) := by decide +kernel
theorem dX7_feed_31 : decode cX7_feed 31 = .ok (.iload_n 1, 1) := by decide +kernel
theorem dX7_feed_32 : decode cX7_feed 32 = .ok (.invokevirtual 80, 3) := by decide +kernel
theorem dX7_feed_35 : decode cX7_feed 35 = .ok (.aload_n 0, 1) := by decide +kernel
theorem dX7_feed_36 : decode cX7_feed 36 = .ok (.getfield 10, 3) := by decide +kernel
theorem dX7_feed_39 : decode cX7_feed 39 = .ok (.getfield 84, 3) := by decide +kernel
theorem dX7_feed_42 : decode cX7_feed 42 = .ok (.ireturn, 1) := by decide +kernel
set_option maxRecDepth 20000 in
theorem ggX7_cut_X3_read : GoodIn wsX7_cut wsX3_read := goodIn_r _ [20, 21, 22, 23, 24, 25, 26, 27, 28, 29, 30, 19, 31, 32, 33, 34, 35, 36, 37, 38, 39, 40, 41, 42, 43, 44, 45, 46, 47, 48, 49, 50, 51, 52, 53, 54, 55, 56, 57, 58, 59, 60, 61, 62, 63, 64, 65, 66, 67, 68, 69, 70, 71, 72, 73, 74, 75, 76, 77, 78, 79, 80, 126, 127, 128, 129, 130, 131, 132, 133, 134, 135] (by decide +kernel) (by decide +kernel)
set_option maxRecDepth 20000 in
theorem gX7_cut_X3_read : GoodIn wsX7_cut (wsV RX7 87 RX3 yX3_read wsX3_read) := goodIn_app (goodIn_of _ (by decide +kernel)) ggX7_cut_X3_read
set_option maxRecDepth 20000 in
theorem ggX7_cut_X0_become : GoodIn wsX7_cut wsX0_become := goodIn_r _ [85, 86, 145] (by decide +kernel) (by decide +kernel)
set_option maxRecDepth 20000 in
theorem gX7_cut_X0_become : GoodIn wsX7_cut (wsV RX7 98 RX0 yX0_become wsX0_become) := goodIn_app (goodIn_of _ (by decide +kernel)) ggX7_cut_X0_become
set_option maxRecDepth 20000 in
theorem ggX7_cut_X5_begin : GoodIn wsX7_cut wsX5_begin := goodIn_r _ [91, 92, 93, 94, 95, 96, 97, 98, 99, 100, 101, 102, 103, 104, 105, 106, 107, 108, 136, 137, 138, 139, 140, 141, 142, 143, 144] (by decide +kernel) (by decide +kernel)
set_option maxRecDepth 20000 in
theorem gX7_cut_X5_begin : GoodIn wsX7_cut (wsV RX7 111 RX5 yX5_begin wsX5_begin) := goodIn_app (goodIn_of _ (by decide +kernel)) ggX7_cut_X5_begin
set_option maxRecDepth 20000 in
theorem ggX7_cut_X1_clearAll : GoodIn wsX7_cut wsX1_clearAll := goodIn_r _ [113, 114, 115, 146, 147, 148, 149, 150, 151, 152, 153] (by decide +kernel) (by decide +kernel)
set_option maxRecDepth 20000 in
theorem gX7_cut_X1_clearAll : GoodIn wsX7_cut (wsV RX7 115 RX1 yX1_clearAll wsX1_clearAll) := goodIn_app (goodIn_of _ (by decide +kernel)) ggX7_cut_X1_clearAll
theorem dX7_cut_0 : decode cX7_cut 0 = .ok (.aload_n 0, 1) := by decide +kernel
theorem dX7_cut_1 : decode cX7_cut 1 = .ok (.getfield 10, 3) := by decide +kernel
theorem dX7_cut_4 : decode cX7_cut 4 = .ok (.invokevirtual 87, 3) := by decide +kernel
theorem dX7_cut_7 : decode cX7_cut 7 = .ok (.istore_n 1, 1) := by decide +kernel
theorem dX7_cut_8 : decode cX7_cut 8 = .ok (.aload_n 0, 1) := by decide +kernel
theorem dX7_cut_9 : decode cX7_cut 9 = .ok (.getfield 10, 3) := by decide +kernel
theorem dX7_cut_12 : decode cX7_cut 12 = .ok (.iconst 0, 1) := by decide +kernel
theorem dX7_cut_13 : decode cX7_cut 13 = .ok (.putfield 84, 3) := by decide +kernel
theorem dX7_cut_16 : decode cX7_cut 16 = .ok (.aload_n 0, 1) := by decide +kernel
theorem dX7_cut_17 : decode cX7_cut 17 = .ok (.aload_n 0, 1) := by decide +kernel
theorem dX7_cut_18 : decode cX7_cut 18 = .ok (.getfield 10, 3) := by decide +kernel
theorem dX7_cut_21 : decode cX7_cut 21 = .ok (.getfield 90, 3) := by decide +kernel
theorem dX7_cut_24 : decode cX7_cut 24 = .ok (.putfield 66, 3) := by decide +kernel
theorem dX7_cut_27 : decode cX7_cut 27 = .ok (.iload_n 1, 1) := by decide +kernel
theorem dX7_cut_28 : decode cX7_cut 28 = .ok (.ifCond .ne 14, 3) := by decide +kernel
theorem dX7_cut_31 : decode cX7_cut 31 = .ok (.bipush (-10), 2) := by decide +kernel
theorem dX7_cut_33 : decode cX7_cut 33 = .ok (.aload_n 0, 1) := by decide +kernel
theorem dX7_cut_34 : decode cX7_cut 34 = .ok (.getfield 10, 3) := by decide +kernel
theorem dX7_cut_37 : decode cX7_cut 37 = .ok (.getfield 91, 3) := by decide +kernel
theorem dX7_cut_40 : decode cX7_cut 40 = .ok (.isub, 1) := by decide +kernel
theorem dX7_cut_41 : decode cX7_cut 41 = .ok (.ireturn, 1) := by decide +kernel
theorem dX7_cut_42 : decode cX7_cut 42 = .ok (.aload_n 0, 1) := by decide +kernel
theorem dX7_cut_43 : decode cX7_cut 43 = .ok (.getfield 19, 3) := by decide +kernel
theorem dX7_cut_46 : decode cX7_cut 46 = .ok (.aload_n 0, 1) := by decide +kernel
theorem dX7_cut_47 : decode cX7_cut 47 = .ok (.getfield 10, 3) := by decide +kernel
theorem dX7_cut_50 : decode cX7_cut 50 = .ok (.getfield 94, 3) := by decide +kernel
theorem dX7_cut_53 : decode cX7_cut 53 = .ok (.invokevirtual 98, 3) := by decide +kernel
theorem dX7_cut_56 : decode cX7_cut 56 = .ok (.aload_n 0, 1) := by decide +kernel
theorem dX7_cut_57 : decode cX7_cut 57 = .ok (.getfield 26, 3) := by decide +kernel
theorem dX7_cut_60 : decode cX7_cut 60 = .ok (.aload_n 0, 1) := by decide +kernel
theorem dX7_cut_61 : decode cX7_cut 61 = .ok (.getfield 10, 3) := by decide +kernel
theorem dX7_cut_64 : decode cX7_cut 64 = .ok (.getfield 102, 3) := by decide +kernel
theorem dX7_cut_67 : decode cX7_cut 67 = .ok (.aload_n 0, 1) := by decide +kernel
theorem dX7_cut_68 : decode cX7_cut 68 = .ok (.getfield 10, 3) := by decide +kernel
theorem dX7_cut_71 : decode cX7_cut 71 = .ok (.getfield 105, 3) := by decide +kernel
theorem dX7_cut_74 : decode cX7_cut 74 = .ok (.aload_n 0, 1) := by decide +kernel
theorem dX7_cut_75 : decode cX7_cut 75 = .ok (.getfield 10, 3) := by decide +kernel
theorem dX7_cut_78 : decode cX7_cut 78 = .ok (.getfield 108, 3) := by decide +kernel
theorem dX7_cut_81 : decode cX7_cut 81 = .ok (.invokevirtual 111, 3) := by decide +kernel
theorem dX7_cut_84 : decode cX7_cut 84 = .ok (.aload_n 0, 1) := by decide +kernel
theorem dX7_cut_85 : decode cX7_cut 85 = .ok (.getfield 41, 3) := by decide +kernel
theorem dX7_cut_88 : decode cX7_cut 88 = .ok (.invokevirtual 115, 3) := by decide +kernel
theorem dX7_cut_91 : decode cX7_cut 91 = .ok (.iconst 0, 1) := by decide +kernel
theorem dX7_cut_92 : decode cX7_cut 92 = .ok (.istore_n 2, 1) := by decide +kernel
theorem dX7_cut_93 : decode cX7_cut 93 = .ok (.iload_n 2, 1) := by decide +kernel
theorem dX7_cut_94 : decode cX7_cut 94 = .ok (.iconst 2, 1) := by decide +kernel
theorem dX7_cut_95 : decode cX7_cut 95 = .ok (.if_icmp .ge 16, 3) := by decide +kernel
theorem dX7_cut_98 : decode cX7_cut 98 = .ok (.aload_n 0, 1) := by decide +kernel
theorem dX7_cut_99 : decode cX7_cut 99 = .ok (.getfield 34, 3) := by decide +kernel
theorem dX7_cut_102 : decode cX7_cut 102 = .ok (.iload_n 2, 1) := by decide +kernel
theorem dX7_cut_103 : decode cX7_cut 103 = .ok (.iconst 0, 1) := by decide +kernel
theorem dX7_cut_104 : decode cX7_cut 104 = .ok (.bastore, 1) := by decide +kernel
theorem dX7_cut_105 : decode cX7_cut 105 = .ok (.iinc 2 1, 3) := by decide +kernel
theorem dX7_cut_108 : decode cX7_cut 108 = .ok (.goto (-15), 3) := by decide +kernel
theorem dX7_cut_111 : decode cX7_cut 111 = .ok (.aload_n 0, 1) := by decide +kernel
theorem dX7_cut_112 : decode cX7_cut 112 = .ok (.getfield 26, 3) := by decide +kernel
theorem dX7_cut_115 : decode cX7_cut 115 = .ok (.getfield 118, 3) := by decide +kernel
theorem dX7_cut_118 : decode cX7_cut 118 = .ok (.getfield 121, 3) := by decide +kernel
theorem dX7_cut_121 : decode cX7_cut 121 = .ok (.ireturn, 1) := by decide +kernel
theorem dX7_fault_0 : decode cX7_fault 0 = .ok (.aload_n 0, 1) := by decide +kernel
theorem dX7_fault_1 : decode cX7_fault 1 = .ok (.getfield 66, 3) := by decide +kernel
theorem dX7_fault_4 : decode cX7_fault 4 = .ok (.ireturn, 1) := by decide +kernel
set_option maxRecDepth 20000 in
theorem ggX7_told_X7_isOut : GoodIn wsX7_told wsX7_isOut := goodIn_r _ [18] (by decide +kernel) (by decide +kernel)
set_option maxRecDepth 20000 in
theorem gX7_told_X7_isOut : GoodIn wsX7_told (va_wsS RX7 70 yX7_isOut wsX7_isOut) := goodIn_app (goodIn_of _ (by decide +kernel)) ggX7_told_X7_isOut
set_option maxRecDepth 20000 in
theorem ggX7_told_X0_laggardsTold : GoodIn wsX7_told wsX0_laggardsTold := goodIn_r _ [23, 24, 63] (by decide +kernel) (by decide +kernel)
set_option maxRecDepth 20000 in
theorem gX7_told_X0_laggardsTold : GoodIn wsX7_told (wsV RX7 131 RX0 yX0_laggardsTold wsX0_laggardsTold) := goodIn_app (goodIn_of _ (by decide +kernel)) ggX7_told_X0_laggardsTold
set_option maxRecDepth 20000 in
theorem ggX7_told_X0_swayBy : GoodIn wsX7_told wsX0_swayBy := goodIn_r _ [28, 24, 29, 30, 31, 32, 33, 34, 35, 63] (by decide +kernel) (by decide +kernel)
set_option maxRecDepth 20000 in
theorem gX7_told_X0_swayBy : GoodIn wsX7_told (wsV RX7 135 RX0 yX0_swayBy wsX0_swayBy) := goodIn_app (goodIn_of _ (by decide +kernel)) ggX7_told_X0_swayBy
set_option maxRecDepth 20000 in
theorem ggX7_told_X7_forceNow : GoodIn wsX7_told wsX7_forceNow := goodIn_r _ [39, 2, 4, 10, 40, 41, 42, 22, 43, 44, 45, 46, 47, 24, 48, 20, 21, 23, 49, 26, 27, 28, 29, 30, 31, 32, 33, 34, 35, 50, 51, 52, 53, 54, 55, 56, 57, 58, 59, 60, 61, 62, 64, 65, 66, 67, 63] (by decide +kernel) (by decide +kernel)
set_option maxRecDepth 20000 in
theorem gX7_told_X7_forceNow : GoodIn wsX7_told (wsV RX7 139 RX7 yX7_forceNow wsX7_forceNow) := goodIn_app (goodIn_of _ (by decide +kernel)) ggX7_told_X7_forceNow
theorem dX7_told_0 : decode cX7_told 0 = .ok (.iload_n 1, 1) := by decide +kernel
theorem dX7_told_1 : decode cX7_told 1 = .ok (.iconst 0, 1) := by decide +kernel
theorem dX7_told_2 : decode cX7_told 2 = .ok (.bipush 17, 2) := by decide +kernel
theorem dX7_told_4 : decode cX7_told 4 = .ok (.invokestatic 70, 3) := by decide +kernel
theorem dX7_told_7 : decode cX7_told 7 = .ok (.ifCond .eq 6, 3) := by decide +kernel
theorem dX7_told_10 : decode cX7_told 10 = .ok (.ldc 74, 2) := by decide +kernel
theorem dX7_told_12 : decode cX7_told 12 = .ok (.ireturn, 1) := by decide +kernel
theorem dX7_told_13 : decode cX7_told 13 = .ok (.iload_n 1, 1) := by decide +kernel
theorem dX7_told_14 : decode cX7_told 14 = .ok (.iconst 1, 1) := by decide +kernel
theorem dX7_told_15 : decode cX7_told 15 = .ok (.if_icmp .lt 21, 3) := by decide +kernel
theorem dX7_told_18 : decode cX7_told 18 = .ok (.iload_n 1, 1) := by decide +kernel
theorem dX7_told_19 : decode cX7_told 19 = .ok (.bipush 9, 2) := by decide +kernel
theorem dX7_told_21 : decode cX7_told 21 = .ok (.if_icmp .gt 15, 3) := by decide +kernel
theorem dX7_told_24 : decode cX7_told 24 = .ok (.aload_n 0, 1) := by decide +kernel
theorem dX7_told_25 : decode cX7_told 25 = .ok (.getfield 19, 3) := by decide +kernel
theorem dX7_told_28 : decode cX7_told 28 = .ok (.getfield 124, 3) := by decide +kernel
theorem dX7_told_31 : decode cX7_told 31 = .ok (.iload_n 1, 1) := by decide +kernel
theorem dX7_told_32 : decode cX7_told 32 = .ok (.iconst 1, 1) := by decide +kernel
theorem dX7_told_33 : decode cX7_told 33 = .ok (.isub, 1) := by decide +kernel
theorem dX7_told_34 : decode cX7_told 34 = .ok (.iaload, 1) := by decide +kernel
theorem dX7_told_35 : decode cX7_told 35 = .ok (.ireturn, 1) := by decide +kernel
theorem dX7_told_36 : decode cX7_told 36 = .ok (.iload_n 1, 1) := by decide +kernel
theorem dX7_told_37 : decode cX7_told 37 = .ok (.tableswitch 164 0 16 #[83, 164, 164, 164, 164, 164, 164, 164, 164, 164, 94, 102, 110, 118, 140, 145, 156], 83) := by decide +kernel
theorem dX7_told_120 : decode cX7_told 120 = .ok (.aload_n 0, 1) := by decide +kernel
theorem dX7_told_121 : decode cX7_told 121 = .ok (.getfield 26, 3) := by decide +kernel
theorem dX7_told_124 : decode cX7_told 124 = .ok (.getfield 118, 3) := by decide +kernel
theorem dX7_told_127 : decode cX7_told 127 = .ok (.getfield 121, 3) := by decide +kernel
theorem dX7_told_130 : decode cX7_told 130 = .ok (.ireturn, 1) := by decide +kernel
theorem dX7_told_131 : decode cX7_told 131 = .ok (.aload_n 0, 1) := by decide +kernel
theorem dX7_told_132 : decode cX7_told 132 = .ok (.getfield 10, 3) := by decide +kernel
theorem dX7_told_135 : decode cX7_told 135 = .ok (.getfield 84, 3) := by decide +kernel
theorem dX7_told_138 : decode cX7_told 138 = .ok (.ireturn, 1) := by decide +kernel
theorem dX7_told_139 : decode cX7_told 139 = .ok (.aload_n 0, 1) := by decide +kernel
theorem dX7_told_140 : decode cX7_told 140 = .ok (.getfield 26, 3) := by decide +kernel
theorem dX7_told_143 : decode cX7_told 143 = .ok (.getfield 125, 3) := by decide +kernel
theorem dX7_told_146 : decode cX7_told 146 = .ok (.ireturn, 1) := by decide +kernel
theorem dX7_told_147 : decode cX7_told 147 = .ok (.aload_n 0, 1) := by decide +kernel
theorem dX7_told_148 : decode cX7_told 148 = .ok (.getfield 26, 3) := by decide +kernel
theorem dX7_told_151 : decode cX7_told 151 = .ok (.getfield 128, 3) := by decide +kernel
theorem dX7_told_154 : decode cX7_told 154 = .ok (.ireturn, 1) := by decide +kernel
theorem dX7_told_155 : decode cX7_told 155 = .ok (.aload_n 0, 1) := by decide +kernel
theorem dX7_told_156 : decode cX7_told 156 = .ok (.getfield 19, 3) := by decide +kernel
theorem dX7_told_159 : decode cX7_told 159 = .ok (.aload_n 0, 1) := by decide +kernel
theorem dX7_told_160 : decode cX7_told 160 = .ok (.getfield 26, 3) := by decide +kernel
theorem dX7_told_163 : decode cX7_told 163 = .ok (.getfield 128, 3) := by decide +kernel
theorem dX7_told_166 : decode cX7_told 166 = .ok (.aload_n 0, 1) := by decide +kernel
theorem dX7_told_167 : decode cX7_told 167 = .ok (.getfield 19, 3) := by decide +kernel
theorem dX7_told_170 : decode cX7_told 170 = .ok (.invokevirtual 131, 3) := by decide +kernel
theorem dX7_told_173 : decode cX7_told 173 = .ok (.invokevirtual 135, 3) := by decide +kernel
theorem dX7_told_176 : decode cX7_told 176 = .ok (.ireturn, 1) := by decide +kernel
theorem dX7_told_177 : decode cX7_told 177 = .ok (.aload_n 0, 1) := by decide +kernel
theorem dX7_told_178 : decode cX7_told 178 = .ok (.invokevirtual 139, 3) := by decide +kernel
theorem dX7_told_181 : decode cX7_told 181 = .ok (.ireturn, 1) := by decide +kernel
theorem dX7_told_182 : decode cX7_told 182 = .ok (.aload_n 0, 1) := by decide +kernel
theorem dX7_told_183 : decode cX7_told 183 = .ok (.getfield 26, 3) := by decide +kernel
theorem dX7_told_186 : decode cX7_told 186 = .ok (.getfield 118, 3) := by decide +kernel
theorem dX7_told_189 : decode cX7_told 189 = .ok (.getfield 142, 3) := by decide +kernel
theorem dX7_told_192 : decode cX7_told 192 = .ok (.ireturn, 1) := by decide +kernel
theorem dX7_told_193 : decode cX7_told 193 = .ok (.aload_n 0, 1) := by decide +kernel
theorem dX7_told_194 : decode cX7_told 194 = .ok (.getfield 41, 3) := by decide +kernel
theorem dX7_told_197 : decode cX7_told 197 = .ok (.getfield 145, 3) := by decide +kernel
theorem dX7_told_200 : decode cX7_told 200 = .ok (.ireturn, 1) := by decide +kernel
theorem dX7_told_201 : decode cX7_told 201 = .ok (.aload_n 0, 1) := by decide +kernel
theorem dX7_told_202 : decode cX7_told 202 = .ok (.getfield 41, 3) := by decide +kernel
theorem dX7_told_205 : decode cX7_told 205 = .ok (.getfield 148, 3) := by decide +kernel
theorem dX7_told_208 : decode cX7_told 208 = .ok (.ireturn, 1) := by decide +kernel
set_option maxRecDepth 20000 in
theorem ggX7_yard_X6_has : GoodIn wsX7_yard wsX6_has := goodIn_r _ [12, 13, 28, 29, 30, 31, 32] (by decide +kernel) (by decide +kernel)
set_option maxRecDepth 20000 in
theorem gX7_yard_X6_has : GoodIn wsX7_yard (wsV RX7 151 RX6 yX6_has wsX6_has) := goodIn_app (goodIn_of _ (by decide +kernel)) ggX7_yard_X6_has
theorem dX7_yard_0 : decode cX7_yard 0 = .ok (.aload_n 0, 1) := by decide +kernel
theorem dX7_yard_1 : decode cX7_yard 1 = .ok (.getfield 26, 3) := by decide +kernel
theorem dX7_yard_4 : decode cX7_yard 4 = .ok (.getfield 118, 3) := by decide +kernel
theorem dX7_yard_7 : decode cX7_yard 7 = .ok (.iload_n 1, 1) := by decide +kernel
theorem dX7_yard_8 : decode cX7_yard 8 = .ok (.invokevirtual 151, 3) := by decide +kernel
theorem dX7_yard_11 : decode cX7_yard 11 = .ok (.ifCond .ne 6, 3) := by decide +kernel
theorem dX7_yard_14 : decode cX7_yard 14 = .ok (.ldc 155, 2) := by decide +kernel
theorem dX7_yard_16 : decode cX7_yard 16 = .ok (.ireturn, 1) := by decide +kernel
theorem dX7_yard_17 : decode cX7_yard 17 = .ok (.iload_n 2, 1) := by decide +kernel
theorem dX7_yard_18 : decode cX7_yard 18 = .ok (.tableswitch 65 0 2 #[26, 39, 52], 26) := by decide +kernel
theorem dX7_yard_44 : decode cX7_yard 44 = .ok (.aload_n 0, 1) := by decide +kernel
theorem dX7_yard_45 : decode cX7_yard 45 = .ok (.getfield 26, 3) := by decide +kernel
theorem dX7_yard_48 : decode cX7_yard 48 = .ok (.getfield 118, 3) := by decide +kernel
theorem dX7_yard_51 : decode cX7_yard 51 = .ok (.getfield 156, 3) := by decide +kernel
theorem dX7_yard_54 : decode cX7_yard 54 = .ok (.iload_n 1, 1) := by decide +kernel
theorem dX7_yard_55 : decode cX7_yard 55 = .ok (.iaload, 1) := by decide +kernel
theorem dX7_yard_56 : decode cX7_yard 56 = .ok (.ireturn, 1) := by decide +kernel
theorem dX7_yard_57 : decode cX7_yard 57 = .ok (.aload_n 0, 1) := by decide +kernel
theorem dX7_yard_58 : decode cX7_yard 58 = .ok (.getfield 26, 3) := by decide +kernel
theorem dX7_yard_61 : decode cX7_yard 61 = .ok (.getfield 118, 3) := by decide +kernel
theorem dX7_yard_64 : decode cX7_yard 64 = .ok (.getfield 159, 3) := by decide +kernel
theorem dX7_yard_67 : decode cX7_yard 67 = .ok (.iload_n 1, 1) := by decide +kernel
theorem dX7_yard_68 : decode cX7_yard 68 = .ok (.iaload, 1) := by decide +kernel
theorem dX7_yard_69 : decode cX7_yard 69 = .ok (.ireturn, 1) := by decide +kernel
theorem dX7_yard_70 : decode cX7_yard 70 = .ok (.aload_n 0, 1) := by decide +kernel
theorem dX7_yard_71 : decode cX7_yard 71 = .ok (.getfield 26, 3) := by decide +kernel
theorem dX7_yard_74 : decode cX7_yard 74 = .ok (.getfield 118, 3) := by decide +kernel
theorem dX7_yard_77 : decode cX7_yard 77 = .ok (.getfield 162, 3) := by decide +kernel
theorem dX7_yard_80 : decode cX7_yard 80 = .ok (.iload_n 1, 1) := by decide +kernel
theorem dX7_yard_81 : decode cX7_yard 81 = .ok (.iaload, 1) := by decide +kernel
theorem dX7_yard_82 : decode cX7_yard 82 = .ok (.ireturn, 1) := by decide +kernel
theorem dX7_yard_83 : decode cX7_yard 83 = .ok (.ldc 74, 2) := by decide +kernel
theorem dX7_yard_85 : decode cX7_yard 85 = .ok (.ireturn, 1) := by decide +kernel
set_option maxRecDepth 20000 in
theorem ggX7_grows_X6_has : GoodIn wsX7_grows wsX6_has := goodIn_r _ [11, 12, 34, 35, 36, 37, 38] (by decide +kernel) (by decide +kernel)
set_option maxRecDepth 20000 in
theorem gX7_grows_X6_has : GoodIn wsX7_grows (wsV RX7 151 RX6 yX6_has wsX6_has) := goodIn_app (goodIn_of _ (by decide +kernel)) ggX7_grows_X6_has
set_option maxRecDepth 20000 in
theorem ggX7_grows_X7_isOut : GoodIn wsX7_grows wsX7_isOut := goodIn_r _ [16] (by decide +kernel) (by decide +kernel)
set_option maxRecDepth 20000 in
theorem gX7_grows_X7_isOut : GoodIn wsX7_grows (va_wsS RX7 70 yX7_isOut wsX7_isOut) := goodIn_app (goodIn_of _ (by decide +kernel)) ggX7_grows_X7_isOut
set_option maxRecDepth 20000 in
theorem ggX7_grows_X6_growth : GoodIn wsX7_grows wsX6_growth := goodIn_r _ [19] (by decide +kernel) (by decide +kernel)
set_option maxRecDepth 20000 in
theorem gX7_grows_X6_growth : GoodIn wsX7_grows (va_wsS RX7 165 yX6_growth wsX6_growth) := goodIn_app (goodIn_of _ (by decide +kernel)) ggX7_grows_X6_growth
theorem dX7_grows_0 : decode cX7_grows 0 = .ok (.aload_n 0, 1) := by decide +kernel
theorem dX7_grows_1 : decode cX7_grows 1 = .ok (.getfield 26, 3) := by decide +kernel
theorem dX7_grows_4 : decode cX7_grows 4 = .ok (.getfield 118, 3) := by decide +kernel
theorem dX7_grows_7 : decode cX7_grows 7 = .ok (.iload_n 1, 1) := by decide +kernel
theorem dX7_grows_8 : decode cX7_grows 8 = .ok (.invokevirtual 151, 3) := by decide +kernel
theorem dX7_grows_11 : decode cX7_grows 11 = .ok (.ifCond .ne 6, 3) := by decide +kernel
theorem dX7_grows_14 : decode cX7_grows 14 = .ok (.ldc 155, 2) := by decide +kernel
theorem dX7_grows_16 : decode cX7_grows 16 = .ok (.ireturn, 1) := by decide +kernel
theorem dX7_grows_17 : decode cX7_grows 17 = .ok (.iload_n 2, 1) := by decide +kernel
theorem dX7_grows_18 : decode cX7_grows 18 = .ok (.iconst 0, 1) := by decide +kernel
theorem dX7_grows_19 : decode cX7_grows 19 = .ok (.bipush 30, 2) := by decide +kernel
theorem dX7_grows_21 : decode cX7_grows 21 = .ok (.invokestatic 70, 3) := by decide +kernel
theorem dX7_grows_24 : decode cX7_grows 24 = .ok (.ifCond .eq 6, 3) := by decide +kernel
theorem dX7_grows_27 : decode cX7_grows 27 = .ok (.ldc 74, 2) := by decide +kernel
theorem dX7_grows_29 : decode cX7_grows 29 = .ok (.ireturn, 1) := by decide +kernel
theorem dX7_grows_30 : decode cX7_grows 30 = .ok (.aload_n 0, 1) := by decide +kernel
theorem dX7_grows_31 : decode cX7_grows 31 = .ok (.getfield 26, 3) := by decide +kernel
theorem dX7_grows_34 : decode cX7_grows 34 = .ok (.getfield 118, 3) := by decide +kernel
theorem dX7_grows_37 : decode cX7_grows 37 = .ok (.getfield 156, 3) := by decide +kernel
theorem dX7_grows_40 : decode cX7_grows 40 = .ok (.iload_n 1, 1) := by decide +kernel
theorem dX7_grows_41 : decode cX7_grows 41 = .ok (.iaload, 1) := by decide +kernel
theorem dX7_grows_42 : decode cX7_grows 42 = .ok (.aload_n 0, 1) := by decide +kernel
theorem dX7_grows_43 : decode cX7_grows 43 = .ok (.getfield 26, 3) := by decide +kernel
theorem dX7_grows_46 : decode cX7_grows 46 = .ok (.getfield 118, 3) := by decide +kernel
theorem dX7_grows_49 : decode cX7_grows 49 = .ok (.getfield 159, 3) := by decide +kernel
theorem dX7_grows_52 : decode cX7_grows 52 = .ok (.iload_n 1, 1) := by decide +kernel
theorem dX7_grows_53 : decode cX7_grows 53 = .ok (.iaload, 1) := by decide +kernel
theorem dX7_grows_54 : decode cX7_grows 54 = .ok (.iload_n 2, 1) := by decide +kernel
theorem dX7_grows_55 : decode cX7_grows 55 = .ok (.invokestatic 165, 3) := by decide +kernel
theorem dX7_grows_58 : decode cX7_grows 58 = .ok (.ireturn, 1) := by decide +kernel
set_option maxRecDepth 20000 in
theorem ggX7_night_X7_isOut : GoodIn wsX7_night wsX7_isOut := goodIn_r _ [9] (by decide +kernel) (by decide +kernel)
set_option maxRecDepth 20000 in
theorem gX7_night_X7_isOut : GoodIn wsX7_night (va_wsS RX7 70 yX7_isOut wsX7_isOut) := goodIn_app (goodIn_of _ (by decide +kernel)) ggX7_night_X7_isOut
set_option maxRecDepth 20000 in
theorem ggX7_night_X5_passCold : GoodIn wsX7_night wsX5_passCold := goodIn_r _ [14, 15, 16, 17, 18, 19, 20, 21, 22, 23, 24, 25, 26, 27, 28, 29, 30, 31, 32, 33, 34, 35, 36, 37, 38, 39, 40, 41, 42, 43, 44, 45, 46, 47, 62, 63, 64, 65, 66, 67, 68, 69, 70] (by decide +kernel) (by decide +kernel)
set_option maxRecDepth 20000 in
theorem gX7_night_X5_passCold : GoodIn wsX7_night (wsV RX7 169 RX5 yX5_passCold wsX5_passCold) := goodIn_app (goodIn_of _ (by decide +kernel)) ggX7_night_X5_passCold
set_option maxRecDepth 20000 in
theorem ggX7_night_X6_iceTogether : GoodIn wsX7_night wsX6_iceTogether := goodIn_r _ [51, 22, 23, 66, 67, 68, 69, 70] (by decide +kernel) (by decide +kernel)
set_option maxRecDepth 20000 in
theorem gX7_night_X6_iceTogether : GoodIn wsX7_night (wsV RX7 172 RX6 yX6_iceTogether wsX6_iceTogether) := goodIn_app (goodIn_of _ (by decide +kernel)) ggX7_night_X6_iceTogether
theorem dX7_night_0 : decode cX7_night 0 = .ok (.iload_n 1, 1) := by decide +kernel
theorem dX7_night_1 : decode cX7_night 1 = .ok (.iconst 0, 1) := by decide +kernel
theorem dX7_night_2 : decode cX7_night 2 = .ok (.bipush 30, 2) := by decide +kernel
theorem dX7_night_4 : decode cX7_night 4 = .ok (.invokestatic 70, 3) := by decide +kernel
theorem dX7_night_7 : decode cX7_night 7 = .ok (.ifCond .ne 13, 3) := by decide +kernel
theorem dX7_night_10 : decode cX7_night 10 = .ok (.iload_n 2, 1) := by decide +kernel
theorem dX7_night_11 : decode cX7_night 11 = .ok (.iconst 1, 1) := by decide +kernel
theorem dX7_night_12 : decode cX7_night 12 = .ok (.bipush 99, 2) := by decide +kernel
theorem dX7_night_14 : decode cX7_night 14 = .ok (.invokestatic 70, 3) := by decide +kernel
theorem dX7_night_17 : decode cX7_night 17 = .ok (.ifCond .eq 6, 3) := by decide +kernel
theorem dX7_night_20 : decode cX7_night 20 = .ok (.ldc 74, 2) := by decide +kernel
theorem dX7_night_22 : decode cX7_night 22 = .ok (.ireturn, 1) := by decide +kernel
theorem dX7_night_23 : decode cX7_night 23 = .ok (.aload_n 0, 1) := by decide +kernel
theorem dX7_night_24 : decode cX7_night 24 = .ok (.getfield 26, 3) := by decide +kernel
theorem dX7_night_27 : decode cX7_night 27 = .ok (.getfield 125, 3) := by decide +kernel
theorem dX7_night_30 : decode cX7_night 30 = .ok (.sipush 9000, 3) := by decide +kernel
theorem dX7_night_33 : decode cX7_night 33 = .ok (.if_icmp .le 6, 3) := by decide +kernel
theorem dX7_night_36 : decode cX7_night 36 = .ok (.ldc 79, 2) := by decide +kernel
theorem dX7_night_38 : decode cX7_night 38 = .ok (.ireturn, 1) := by decide +kernel
theorem dX7_night_39 : decode cX7_night 39 = .ok (.iconst 0, 1) := by decide +kernel
theorem dX7_night_40 : decode cX7_night 40 = .ok (.istore_n 3, 1) := by decide +kernel
theorem dX7_night_41 : decode cX7_night 41 = .ok (.iload_n 3, 1) := by decide +kernel
theorem dX7_night_42 : decode cX7_night 42 = .ok (.iload_n 2, 1) := by decide +kernel
theorem dX7_night_43 : decode cX7_night 43 = .ok (.if_icmp .ge 17, 3) := by decide +kernel
theorem dX7_night_46 : decode cX7_night 46 = .ok (.aload_n 0, 1) := by decide +kernel
theorem dX7_night_47 : decode cX7_night 47 = .ok (.getfield 26, 3) := by decide +kernel
theorem dX7_night_50 : decode cX7_night 50 = .ok (.iload_n 1, 1) := by decide +kernel
theorem dX7_night_51 : decode cX7_night 51 = .ok (.invokevirtual 169, 3) := by decide +kernel
theorem dX7_night_54 : decode cX7_night 54 = .ok (.iinc 3 1, 3) := by decide +kernel
theorem dX7_night_57 : decode cX7_night 57 = .ok (.goto (-16), 3) := by decide +kernel
theorem dX7_night_60 : decode cX7_night 60 = .ok (.aload_n 0, 1) := by decide +kernel
theorem dX7_night_61 : decode cX7_night 61 = .ok (.getfield 26, 3) := by decide +kernel
theorem dX7_night_64 : decode cX7_night 64 = .ok (.getfield 118, 3) := by decide +kernel
theorem dX7_night_67 : decode cX7_night 67 = .ok (.invokevirtual 172, 3) := by decide +kernel
theorem dX7_night_70 : decode cX7_night 70 = .ok (.ireturn, 1) := by decide +kernel
set_option maxRecDepth 20000 in
theorem ggX7_thaw_X7_isOut : GoodIn wsX7_thaw wsX7_isOut := goodIn_r _ [9] (by decide +kernel) (by decide +kernel)
set_option maxRecDepth 20000 in
theorem gX7_thaw_X7_isOut : GoodIn wsX7_thaw (va_wsS RX7 70 yX7_isOut wsX7_isOut) := goodIn_app (goodIn_of _ (by decide +kernel)) ggX7_thaw_X7_isOut
set_option maxRecDepth 20000 in
theorem ggX7_thaw_X5_passThaw : GoodIn wsX7_thaw wsX5_passThaw := goodIn_r _ [14, 15, 16, 17, 18, 19, 20, 21, 22, 23, 24, 25, 26, 27, 28, 29, 30, 31, 32, 33, 34, 35, 36, 37, 38, 39, 40, 41, 56, 57, 58, 59, 60, 61, 62, 63, 64] (by decide +kernel) (by decide +kernel)
set_option maxRecDepth 20000 in
theorem gX7_thaw_X5_passThaw : GoodIn wsX7_thaw (wsV RX7 175 RX5 yX5_passThaw wsX5_passThaw) := goodIn_app (goodIn_of _ (by decide +kernel)) ggX7_thaw_X5_passThaw
set_option maxRecDepth 20000 in
theorem ggX7_thaw_X6_iceTogether : GoodIn wsX7_thaw wsX6_iceTogether := goodIn_r _ [45, 22, 23, 60, 61, 62, 63, 64] (by decide +kernel) (by decide +kernel)
set_option maxRecDepth 20000 in
theorem gX7_thaw_X6_iceTogether : GoodIn wsX7_thaw (wsV RX7 172 RX6 yX6_iceTogether wsX6_iceTogether) := goodIn_app (goodIn_of _ (by decide +kernel)) ggX7_thaw_X6_iceTogether
theorem dX7_thaw_0 : decode cX7_thaw 0 = .ok (.iload_n 1, 1) := by decide +kernel
theorem dX7_thaw_1 : decode cX7_thaw 1 = .ok (.iconst 0, 1) := by decide +kernel
theorem dX7_thaw_2 : decode cX7_thaw 2 = .ok (.bipush 60, 2) := by decide +kernel
theorem dX7_thaw_4 : decode cX7_thaw 4 = .ok (.invokestatic 70, 3) := by decide +kernel
theorem dX7_thaw_7 : decode cX7_thaw 7 = .ok (.ifCond .eq 6, 3) := by decide +kernel
theorem dX7_thaw_10 : decode cX7_thaw 10 = .ok (.ldc 74, 2) := by decide +kernel
theorem dX7_thaw_12 : decode cX7_thaw 12 = .ok (.ireturn, 1) := by decide +kernel
theorem dX7_thaw_13 : decode cX7_thaw 13 = .ok (.aload_n 0, 1) := by decide +kernel
theorem dX7_thaw_14 : decode cX7_thaw 14 = .ok (.getfield 26, 3) := by decide +kernel
theorem dX7_thaw_17 : decode cX7_thaw 17 = .ok (.getfield 125, 3) := by decide +kernel
theorem dX7_thaw_20 : decode cX7_thaw 20 = .ok (.sipush 9000, 3) := by decide +kernel
theorem dX7_thaw_23 : decode cX7_thaw 23 = .ok (.if_icmp .le 6, 3) := by decide +kernel
theorem dX7_thaw_26 : decode cX7_thaw 26 = .ok (.ldc 79, 2) := by decide +kernel
theorem dX7_thaw_28 : decode cX7_thaw 28 = .ok (.ireturn, 1) := by decide +kernel
theorem dX7_thaw_29 : decode cX7_thaw 29 = .ok (.aload_n 0, 1) := by decide +kernel
theorem dX7_thaw_30 : decode cX7_thaw 30 = .ok (.getfield 26, 3) := by decide +kernel
theorem dX7_thaw_33 : decode cX7_thaw 33 = .ok (.iload_n 1, 1) := by decide +kernel
theorem dX7_thaw_34 : decode cX7_thaw 34 = .ok (.invokevirtual 175, 3) := by decide +kernel
theorem dX7_thaw_37 : decode cX7_thaw 37 = .ok (.aload_n 0, 1) := by decide +kernel
theorem dX7_thaw_38 : decode cX7_thaw 38 = .ok (.getfield 26, 3) := by decide +kernel
theorem dX7_thaw_41 : decode cX7_thaw 41 = .ok (.getfield 118, 3) := by decide +kernel
theorem dX7_thaw_44 : decode cX7_thaw 44 = .ok (.invokevirtual 172, 3) := by decide +kernel
theorem dX7_thaw_47 : decode cX7_thaw 47 = .ok (.ireturn, 1) := by decide +kernel
set_option maxRecDepth 20000 in
theorem ggX7_beat_X7_isOut : GoodIn wsX7_beat wsX7_isOut := goodIn_r _ [7] (by decide +kernel) (by decide +kernel)
set_option maxRecDepth 20000 in
theorem gX7_beat_X7_isOut : GoodIn wsX7_beat (va_wsS RX7 70 yX7_isOut wsX7_isOut) := goodIn_app (goodIn_of _ (by decide +kernel)) ggX7_beat_X7_isOut
set_option maxRecDepth 20000 in
theorem ggX7_beat_X7_forceNow : GoodIn wsX7_beat wsX7_forceNow := goodIn_r _ [11, 12, 2, 3, 13, 14, 15, 16, 17, 18, 19, 20, 21, 22, 23, 24, 25, 26, 27, 28, 29, 30, 31, 32, 33, 34, 35, 36, 37, 38, 39, 40, 41, 42, 43, 44, 45, 46, 47, 48, 49, 50, 51, 52, 53, 54, 55] (by decide +kernel) (by decide +kernel)
set_option maxRecDepth 20000 in
theorem gX7_beat_X7_forceNow : GoodIn wsX7_beat (wsV RX7 139 RX7 yX7_forceNow wsX7_forceNow) := goodIn_app (goodIn_of _ (by decide +kernel)) ggX7_beat_X7_forceNow
theorem dX7_beat_0 : decode cX7_beat 0 = .ok (.iload_n 1, 1) := by decide +kernel
theorem dX7_beat_1 : decode cX7_beat 1 = .ok (.iconst 1, 1) := by decide +kernel
theorem dX7_beat_2 : decode cX7_beat 2 = .ok (.bipush 9, 2) := by decide +kernel
theorem dX7_beat_4 : decode cX7_beat 4 = .ok (.invokestatic 70, 3) := by decide +kernel
theorem dX7_beat_7 : decode cX7_beat 7 = .ok (.ifCond .eq 6, 3) := by decide +kernel
theorem dX7_beat_10 : decode cX7_beat 10 = .ok (.ldc 74, 2) := by decide +kernel
theorem dX7_beat_12 : decode cX7_beat 12 = .ok (.ireturn, 1) := by decide +kernel
theorem dX7_beat_13 : decode cX7_beat 13 = .ok (.aload_n 0, 1) := by decide +kernel
theorem dX7_beat_14 : decode cX7_beat 14 = .ok (.getfield 26, 3) := by decide +kernel
theorem dX7_beat_17 : decode cX7_beat 17 = .ok (.iload_n 1, 1) := by decide +kernel
theorem dX7_beat_18 : decode cX7_beat 18 = .ok (.putfield 128, 3) := by decide +kernel
theorem dX7_beat_21 : decode cX7_beat 21 = .ok (.aload_n 0, 1) := by decide +kernel
theorem dX7_beat_22 : decode cX7_beat 22 = .ok (.invokevirtual 139, 3) := by decide +kernel
theorem dX7_beat_25 : decode cX7_beat 25 = .ok (.ireturn, 1) := by decide +kernel
set_option maxRecDepth 20000 in
theorem ggX7_out_X7_isOutOfDay : GoodIn wsX7_out wsX7_isOutOfDay := goodIn_r _ [11, 12, 13, 10, 14] (by decide +kernel) (by decide +kernel)
set_option maxRecDepth 20000 in
theorem gX7_out_X7_isOutOfDay : GoodIn wsX7_out (va_wsS RX7 178 yX7_isOutOfDay wsX7_isOutOfDay) := goodIn_app (goodIn_of _ (by decide +kernel)) ggX7_out_X7_isOutOfDay
set_option maxRecDepth 20000 in
theorem ggX7_out_X7_goFromNow : GoodIn wsX7_out wsX7_goFromNow := goodIn_r _ [18, 6, 2, 3, 19, 20, 21, 22, 10, 23, 24, 25, 26, 27, 28, 29, 30, 31, 32, 33, 34, 35, 36, 37, 38, 39, 40, 41, 42, 43, 44, 45, 46, 47, 48, 49, 50, 51, 52, 53, 54, 55, 56, 57, 58, 59, 60, 61, 62, 63, 64, 65, 66, 67, 68, 69, 70, 71, 81, 82, 83, 84, 85, 86, 87, 88, 89, 90, 91, 92, 93, 94, 104, 100, 101, 102, 103, 95, 96, 97, 98, 99] (by decide +kernel) (by decide +kernel)
set_option maxRecDepth 20000 in
theorem gX7_out_X7_goFromNow : GoodIn wsX7_out (wsV RX7 182 RX7 yX7_goFromNow wsX7_goFromNow) := goodIn_app (goodIn_of _ (by decide +kernel)) ggX7_out_X7_goFromNow
set_option maxRecDepth 20000 in
theorem ggX7_out_X6_openFirst : GoodIn wsX7_out wsX6_openFirst := goodIn_r _ [76, 77, 78, 79, 80, 95, 96, 97, 98, 99] (by decide +kernel) (by decide +kernel)
set_option maxRecDepth 20000 in
theorem gX7_out_X6_openFirst : GoodIn wsX7_out (wsV RX7 188 RX6 yX6_openFirst wsX6_openFirst) := goodIn_app (goodIn_of _ (by decide +kernel)) ggX7_out_X6_openFirst
theorem dX7_out_0 : decode cX7_out 0 = .ok (.iload_n 1, 1) := by decide +kernel
theorem dX7_out_1 : decode cX7_out 1 = .ok (.invokestatic 178, 3) := by decide +kernel
theorem dX7_out_4 : decode cX7_out 4 = .ok (.ifCond .eq 6, 3) := by decide +kernel
theorem dX7_out_7 : decode cX7_out 7 = .ok (.ldc 74, 2) := by decide +kernel
theorem dX7_out_9 : decode cX7_out 9 = .ok (.ireturn, 1) := by decide +kernel
theorem dX7_out_10 : decode cX7_out 10 = .ok (.aload_n 0, 1) := by decide +kernel
theorem dX7_out_11 : decode cX7_out 11 = .ok (.getfield 26, 3) := by decide +kernel
theorem dX7_out_14 : decode cX7_out 14 = .ok (.getfield 118, 3) := by decide +kernel
theorem dX7_out_17 : decode cX7_out 17 = .ok (.getfield 121, 3) := by decide +kernel
theorem dX7_out_20 : decode cX7_out 20 = .ok (.ifCond .ne 6, 3) := by decide +kernel
theorem dX7_out_23 : decode cX7_out 23 = .ok (.ldc 181, 2) := by decide +kernel
theorem dX7_out_25 : decode cX7_out 25 = .ok (.ireturn, 1) := by decide +kernel
theorem dX7_out_26 : decode cX7_out 26 = .ok (.aload_n 0, 1) := by decide +kernel
theorem dX7_out_27 : decode cX7_out 27 = .ok (.iload_n 1, 1) := by decide +kernel
theorem dX7_out_28 : decode cX7_out 28 = .ok (.invokevirtual 182, 3) := by decide +kernel
theorem dX7_out_31 : decode cX7_out 31 = .ok (.aload_n 0, 1) := by decide +kernel
theorem dX7_out_32 : decode cX7_out 32 = .ok (.getfield 26, 3) := by decide +kernel
theorem dX7_out_35 : decode cX7_out 35 = .ok (.getfield 118, 3) := by decide +kernel
theorem dX7_out_38 : decode cX7_out 38 = .ok (.aload_n 0, 1) := by decide +kernel
theorem dX7_out_39 : decode cX7_out 39 = .ok (.getfield 48, 3) := by decide +kernel
theorem dX7_out_42 : decode cX7_out 42 = .ok (.getfield 185, 3) := by decide +kernel
theorem dX7_out_45 : decode cX7_out 45 = .ok (.invokevirtual 188, 3) := by decide +kernel
theorem dX7_out_48 : decode cX7_out 48 = .ok (.aload_n 0, 1) := by decide +kernel
theorem dX7_out_49 : decode cX7_out 49 = .ok (.getfield 48, 3) := by decide +kernel
theorem dX7_out_52 : decode cX7_out 52 = .ok (.getfield 185, 3) := by decide +kernel
theorem dX7_out_55 : decode cX7_out 55 = .ok (.ireturn, 1) := by decide +kernel
set_option maxRecDepth 20000 in
theorem ggX7_drift_X7_isOut : GoodIn wsX7_drift wsX7_isOut := goodIn_r _ [9] (by decide +kernel) (by decide +kernel)
set_option maxRecDepth 20000 in
theorem gX7_drift_X7_isOut : GoodIn wsX7_drift (va_wsS RX7 70 yX7_isOut wsX7_isOut) := goodIn_app (goodIn_of _ (by decide +kernel)) ggX7_drift_X7_isOut
set_option maxRecDepth 20000 in
theorem ggX7_drift_X5_passByDraws : GoodIn wsX7_drift wsX5_passByDraws := goodIn_r _ [14, 15, 16, 17, 13, 18, 19, 20, 21, 22, 23, 24, 25, 26, 27, 28, 29, 30, 31, 32, 33, 34, 35, 36, 37, 38, 39, 40, 41, 42, 43, 44, 45, 46, 47, 48, 49, 50, 51, 52, 53, 54, 55, 56, 57, 58, 59, 60, 61, 62, 63, 64, 65, 66, 67, 68, 69, 70, 71, 86, 87, 88, 89, 90, 91, 92, 93, 94] (by decide +kernel) (by decide +kernel)
set_option maxRecDepth 20000 in
theorem gX7_drift_X5_passByDraws : GoodIn wsX7_drift (wsV RX7 191 RX5 yX5_passByDraws wsX5_passByDraws) := goodIn_app (goodIn_of _ (by decide +kernel)) ggX7_drift_X5_passByDraws
set_option maxRecDepth 20000 in
theorem ggX7_drift_X6_iceTogether : GoodIn wsX7_drift wsX6_iceTogether := goodIn_r _ [75, 35, 36, 90, 91, 92, 93, 94] (by decide +kernel) (by decide +kernel)
set_option maxRecDepth 20000 in
theorem gX7_drift_X6_iceTogether : GoodIn wsX7_drift (wsV RX7 172 RX6 yX6_iceTogether wsX6_iceTogether) := goodIn_app (goodIn_of _ (by decide +kernel)) ggX7_drift_X6_iceTogether
theorem dX7_drift_0 : decode cX7_drift 0 = .ok (.iload_n 1, 1) := by decide +kernel
theorem dX7_drift_1 : decode cX7_drift 1 = .ok (.iconst 1, 1) := by decide +kernel
theorem dX7_drift_2 : decode cX7_drift 2 = .ok (.bipush 99, 2) := by decide +kernel
theorem dX7_drift_4 : decode cX7_drift 4 = .ok (.invokestatic 70, 3) := by decide +kernel
theorem dX7_drift_7 : decode cX7_drift 7 = .ok (.ifCond .eq 6, 3) := by decide +kernel
theorem dX7_drift_10 : decode cX7_drift 10 = .ok (.ldc 74, 2) := by decide +kernel
theorem dX7_drift_12 : decode cX7_drift 12 = .ok (.ireturn, 1) := by decide +kernel
theorem dX7_drift_13 : decode cX7_drift 13 = .ok (.aload_n 0, 1) := by decide +kernel
theorem dX7_drift_14 : decode cX7_drift 14 = .ok (.getfield 26, 3) := by decide +kernel
theorem dX7_drift_17 : decode cX7_drift 17 = .ok (.getfield 125, 3) := by decide +kernel
theorem dX7_drift_20 : decode cX7_drift 20 = .ok (.sipush 9000, 3) := by decide +kernel
theorem dX7_drift_23 : decode cX7_drift 23 = .ok (.if_icmp .le 6, 3) := by decide +kernel
theorem dX7_drift_26 : decode cX7_drift 26 = .ok (.ldc 79, 2) := by decide +kernel
theorem dX7_drift_28 : decode cX7_drift 28 = .ok (.ireturn, 1) := by decide +kernel
theorem dX7_drift_29 : decode cX7_drift 29 = .ok (.iconst 0, 1) := by decide +kernel
theorem dX7_drift_30 : decode cX7_drift 30 = .ok (.istore_n 2, 1) := by decide +kernel
theorem dX7_drift_31 : decode cX7_drift 31 = .ok (.iload_n 2, 1) := by decide +kernel
theorem dX7_drift_32 : decode cX7_drift 32 = .ok (.iload_n 1, 1) := by decide +kernel
theorem dX7_drift_33 : decode cX7_drift 33 = .ok (.if_icmp .ge 16, 3) := by decide +kernel
theorem dX7_drift_36 : decode cX7_drift 36 = .ok (.aload_n 0, 1) := by decide +kernel
theorem dX7_drift_37 : decode cX7_drift 37 = .ok (.getfield 26, 3) := by decide +kernel
theorem dX7_drift_40 : decode cX7_drift 40 = .ok (.invokevirtual 191, 3) := by decide +kernel
theorem dX7_drift_43 : decode cX7_drift 43 = .ok (.iinc 2 1, 3) := by decide +kernel
theorem dX7_drift_46 : decode cX7_drift 46 = .ok (.goto (-15), 3) := by decide +kernel
theorem dX7_drift_49 : decode cX7_drift 49 = .ok (.aload_n 0, 1) := by decide +kernel
theorem dX7_drift_50 : decode cX7_drift 50 = .ok (.getfield 26, 3) := by decide +kernel
theorem dX7_drift_53 : decode cX7_drift 53 = .ok (.getfield 118, 3) := by decide +kernel
theorem dX7_drift_56 : decode cX7_drift 56 = .ok (.invokevirtual 172, 3) := by decide +kernel
theorem dX7_drift_59 : decode cX7_drift 59 = .ok (.ireturn, 1) := by decide +kernel
set_option maxRecDepth 20000 in
theorem ggX7_today_X7_isOutOfDay : GoodIn wsX7_today wsX7_isOutOfDay := goodIn_r _ [8, 9, 10, 7, 11] (by decide +kernel) (by decide +kernel)
set_option maxRecDepth 20000 in
theorem gX7_today_X7_isOutOfDay : GoodIn wsX7_today (va_wsS RX7 178 yX7_isOutOfDay wsX7_isOutOfDay) := goodIn_app (goodIn_of _ (by decide +kernel)) ggX7_today_X7_isOutOfDay
set_option maxRecDepth 20000 in
theorem ggX7_today_X7_isOut : GoodIn wsX7_today wsX7_isOut := goodIn_r _ [11] (by decide +kernel) (by decide +kernel)
set_option maxRecDepth 20000 in
theorem gX7_today_X7_isOut : GoodIn wsX7_today (va_wsS RX7 70 yX7_isOut wsX7_isOut) := goodIn_app (goodIn_of _ (by decide +kernel)) ggX7_today_X7_isOut
set_option maxRecDepth 20000 in
theorem ggX7_today_X7_goFromNow : GoodIn wsX7_today wsX7_goFromNow := goodIn_r _ [15, 2, 16, 17, 18, 19, 20, 21, 7, 22, 23, 24, 25, 26, 27, 28, 29, 30, 31, 32, 33, 34, 35, 36, 37, 38, 39, 40, 41, 42, 43, 44, 45, 46, 47, 48, 49, 50, 51, 52, 53, 54, 55, 56, 57, 58, 59, 60, 61, 62, 63, 64, 65, 66, 67, 68, 69, 70, 71, 72, 73, 74, 75, 76, 77, 78, 79, 80, 85, 86, 87, 88, 89, 81, 82, 83, 84, 90, 91, 92, 93, 94] (by decide +kernel) (by decide +kernel)
set_option maxRecDepth 20000 in
theorem gX7_today_X7_goFromNow : GoodIn wsX7_today (wsV RX7 182 RX7 yX7_goFromNow wsX7_goFromNow) := goodIn_app (goodIn_of _ (by decide +kernel)) ggX7_today_X7_goFromNow
theorem dX7_today_0 : decode cX7_today 0 = .ok (.iload_n 1, 1) := by decide +kernel
theorem dX7_today_1 : decode cX7_today 1 = .ok (.invokestatic 178, 3) := by decide +kernel
theorem dX7_today_4 : decode cX7_today 4 = .ok (.ifCond .ne 12, 3) := by decide +kernel
theorem dX7_today_7 : decode cX7_today 7 = .ok (.iload_n 2, 1) := by decide +kernel
theorem dX7_today_8 : decode cX7_today 8 = .ok (.iconst 0, 1) := by decide +kernel
theorem dX7_today_9 : decode cX7_today 9 = .ok (.iconst 1, 1) := by decide +kernel
theorem dX7_today_10 : decode cX7_today 10 = .ok (.invokestatic 70, 3) := by decide +kernel
theorem dX7_today_13 : decode cX7_today 13 = .ok (.ifCond .eq 6, 3) := by decide +kernel
theorem dX7_today_16 : decode cX7_today 16 = .ok (.ldc 74, 2) := by decide +kernel
theorem dX7_today_18 : decode cX7_today 18 = .ok (.ireturn, 1) := by decide +kernel
theorem dX7_today_19 : decode cX7_today 19 = .ok (.aload_n 0, 1) := by decide +kernel
theorem dX7_today_20 : decode cX7_today 20 = .ok (.iload_n 1, 1) := by decide +kernel
theorem dX7_today_21 : decode cX7_today 21 = .ok (.invokevirtual 182, 3) := by decide +kernel
theorem dX7_today_24 : decode cX7_today 24 = .ok (.iload_n 2, 1) := by decide +kernel
theorem dX7_today_25 : decode cX7_today 25 = .ok (.ifCond .ne 13, 3) := by decide +kernel
theorem dX7_today_28 : decode cX7_today 28 = .ok (.aload_n 0, 1) := by decide +kernel
theorem dX7_today_29 : decode cX7_today 29 = .ok (.getfield 48, 3) := by decide +kernel
theorem dX7_today_32 : decode cX7_today 32 = .ok (.getfield 185, 3) := by decide +kernel
theorem dX7_today_35 : decode cX7_today 35 = .ok (.goto 10, 3) := by decide +kernel
theorem dX7_today_38 : decode cX7_today 38 = .ok (.aload_n 0, 1) := by decide +kernel
theorem dX7_today_39 : decode cX7_today 39 = .ok (.getfield 48, 3) := by decide +kernel
theorem dX7_today_42 : decode cX7_today 42 = .ok (.getfield 194, 3) := by decide +kernel
theorem dX7_today_45 : decode cX7_today 45 = .ok (.ireturn, 1) := by decide +kernel
set_option maxRecDepth 20000 in
theorem ggX7_bestBeat_X0_forceBy : GoodIn wsX7_bestBeat wsX0_forceBy := goodIn_r _ [6, 7, 8, 9, 5, 10, 11, 12, 13, 14, 15, 16, 17, 18, 19, 20, 21, 22, 23, 24, 25, 26, 27, 28, 29, 40] (by decide +kernel) (by decide +kernel)
set_option maxRecDepth 20000 in
theorem gX7_bestBeat_X0_forceBy : GoodIn wsX7_bestBeat (wsV RX7 197 RX0 yX0_forceBy wsX0_forceBy) := goodIn_app (goodIn_of _ (by decide +kernel)) ggX7_bestBeat_X0_forceBy
theorem dX7_bestBeat_0 : decode cX7_bestBeat 0 = .ok (.iconst 1, 1) := by decide +kernel
theorem dX7_bestBeat_1 : decode cX7_bestBeat 1 = .ok (.istore_n 1, 1) := by decide +kernel
theorem dX7_bestBeat_2 : decode cX7_bestBeat 2 = .ok (.iconst 2, 1) := by decide +kernel
theorem dX7_bestBeat_3 : decode cX7_bestBeat 3 = .ok (.istore_n 2, 1) := by decide +kernel
theorem dX7_bestBeat_4 : decode cX7_bestBeat 4 = .ok (.iload_n 2, 1) := by decide +kernel
theorem dX7_bestBeat_5 : decode cX7_bestBeat 5 = .ok (.bipush 9, 2) := by decide +kernel
theorem dX7_bestBeat_7 : decode cX7_bestBeat 7 = .ok (.if_icmp .gt 30, 3) := by decide +kernel
theorem dX7_bestBeat_10 : decode cX7_bestBeat 10 = .ok (.aload_n 0, 1) := by decide +kernel
theorem dX7_bestBeat_11 : decode cX7_bestBeat 11 = .ok (.getfield 19, 3) := by decide +kernel
theorem dX7_bestBeat_14 : decode cX7_bestBeat 14 = .ok (.iload_n 2, 1) := by decide +kernel
theorem dX7_bestBeat_15 : decode cX7_bestBeat 15 = .ok (.invokevirtual 197, 3) := by decide +kernel
theorem dX7_bestBeat_18 : decode cX7_bestBeat 18 = .ok (.aload_n 0, 1) := by decide +kernel
theorem dX7_bestBeat_19 : decode cX7_bestBeat 19 = .ok (.getfield 19, 3) := by decide +kernel
theorem dX7_bestBeat_22 : decode cX7_bestBeat 22 = .ok (.iload_n 1, 1) := by decide +kernel
theorem dX7_bestBeat_23 : decode cX7_bestBeat 23 = .ok (.invokevirtual 197, 3) := by decide +kernel
theorem dX7_bestBeat_26 : decode cX7_bestBeat 26 = .ok (.if_icmp .le 5, 3) := by decide +kernel
theorem dX7_bestBeat_29 : decode cX7_bestBeat 29 = .ok (.iload_n 2, 1) := by decide +kernel
theorem dX7_bestBeat_30 : decode cX7_bestBeat 30 = .ok (.istore_n 1, 1) := by decide +kernel
theorem dX7_bestBeat_31 : decode cX7_bestBeat 31 = .ok (.iinc 2 1, 3) := by decide +kernel
theorem dX7_bestBeat_34 : decode cX7_bestBeat 34 = .ok (.goto (-30), 3) := by decide +kernel
theorem dX7_bestBeat_37 : decode cX7_bestBeat 37 = .ok (.iload_n 1, 1) := by decide +kernel
theorem dX7_bestBeat_38 : decode cX7_bestBeat 38 = .ok (.ireturn, 1) := by decide +kernel
set_option maxRecDepth 20000 in
theorem ggX7_laggards_X7_isOutOfDay : GoodIn wsX7_laggards wsX7_isOutOfDay := goodIn_r _ [10, 11, 12, 9, 13] (by decide +kernel) (by decide +kernel)
set_option maxRecDepth 20000 in
theorem gX7_laggards_X7_isOutOfDay : GoodIn wsX7_laggards (va_wsS RX7 178 yX7_isOutOfDay wsX7_isOutOfDay) := goodIn_app (goodIn_of _ (by decide +kernel)) ggX7_laggards_X7_isOutOfDay
set_option maxRecDepth 20000 in
theorem ggX7_laggards_X0_horsesTold : GoodIn wsX7_laggards wsX0_horsesTold := goodIn_r _ [18, 19, 71] (by decide +kernel) (by decide +kernel)
set_option maxRecDepth 20000 in
theorem gX7_laggards_X0_horsesTold : GoodIn wsX7_laggards (wsV RX7 201 RX0 yX0_horsesTold wsX0_horsesTold) := goodIn_app (goodIn_of _ (by decide +kernel)) ggX7_laggards_X0_horsesTold
set_option maxRecDepth 20000 in
theorem ggX7_laggards_X0_swayBy : GoodIn wsX7_laggards wsX0_swayBy := goodIn_r _ [23, 19, 24, 25, 26, 27, 28, 29, 30, 71] (by decide +kernel) (by decide +kernel)
set_option maxRecDepth 20000 in
theorem gX7_laggards_X0_swayBy : GoodIn wsX7_laggards (wsV RX7 135 RX0 yX0_swayBy wsX0_swayBy) := goodIn_app (goodIn_of _ (by decide +kernel)) ggX7_laggards_X0_swayBy
set_option maxRecDepth 20000 in
theorem ggX7_laggards_X0_forceOf : GoodIn wsX7_laggards wsX0_forceOf := goodIn_r _ [33] (by decide +kernel) (by decide +kernel)
set_option maxRecDepth 20000 in
theorem gX7_laggards_X0_forceOf : GoodIn wsX7_laggards (va_wsS RX7 204 yX0_forceOf wsX0_forceOf) := goodIn_app (goodIn_of _ (by decide +kernel)) ggX7_laggards_X0_forceOf
set_option maxRecDepth 20000 in
theorem ggX7_laggards_X0_axeMinutes : GoodIn wsX7_laggards wsX0_axeMinutes := goodIn_r _ [37, 19, 71] (by decide +kernel) (by decide +kernel)
set_option maxRecDepth 20000 in
theorem gX7_laggards_X0_axeMinutes : GoodIn wsX7_laggards (wsV RX7 207 RX0 yX0_axeMinutes wsX0_axeMinutes) := goodIn_app (goodIn_of _ (by decide +kernel)) ggX7_laggards_X0_axeMinutes
set_option maxRecDepth 20000 in
theorem ggX7_laggards_X4_passes : GoodIn wsX7_laggards wsX4_passes := goodIn_r _ [42, 43, 44, 45, 46, 47, 41, 48, 49, 50, 51, 52, 53, 54, 55, 56, 72, 73, 74, 75, 76, 77, 78, 79, 80] (by decide +kernel) (by decide +kernel)
set_option maxRecDepth 20000 in
theorem gX7_laggards_X4_passes : GoodIn wsX7_laggards (wsV RX7 210 RX4 yX4_passes wsX4_passes) := goodIn_app (goodIn_of _ (by decide +kernel)) ggX7_laggards_X4_passes
theorem dX7_laggards_0 : decode cX7_laggards 0 = .ok (.iload_n 1, 1) := by decide +kernel
theorem dX7_laggards_1 : decode cX7_laggards 1 = .ok (.invokestatic 178, 3) := by decide +kernel
theorem dX7_laggards_4 : decode cX7_laggards 4 = .ok (.ifCond .eq 6, 3) := by decide +kernel
theorem dX7_laggards_7 : decode cX7_laggards 7 = .ok (.ldc 74, 2) := by decide +kernel
theorem dX7_laggards_9 : decode cX7_laggards 9 = .ok (.ireturn, 1) := by decide +kernel
theorem dX7_laggards_10 : decode cX7_laggards 10 = .ok (.iconst 0, 1) := by decide +kernel
theorem dX7_laggards_11 : decode cX7_laggards 11 = .ok (.istore_n 2, 1) := by decide +kernel
theorem dX7_laggards_12 : decode cX7_laggards 12 = .ok (.iload_n 2, 1) := by decide +kernel
theorem dX7_laggards_13 : decode cX7_laggards 13 = .ok (.bipush 20, 2) := by decide +kernel
theorem dX7_laggards_15 : decode cX7_laggards 15 = .ok (.if_icmp .gt 63, 3) := by decide +kernel
theorem dX7_laggards_18 : decode cX7_laggards 18 = .ok (.aload_n 0, 1) := by decide +kernel
theorem dX7_laggards_19 : decode cX7_laggards 19 = .ok (.getfield 19, 3) := by decide +kernel
theorem dX7_laggards_22 : decode cX7_laggards 22 = .ok (.invokevirtual 201, 3) := by decide +kernel
theorem dX7_laggards_25 : decode cX7_laggards 25 = .ok (.aload_n 0, 1) := by decide +kernel
theorem dX7_laggards_26 : decode cX7_laggards 26 = .ok (.getfield 19, 3) := by decide +kernel
theorem dX7_laggards_29 : decode cX7_laggards 29 = .ok (.aload_n 0, 1) := by decide +kernel
theorem dX7_laggards_30 : decode cX7_laggards 30 = .ok (.getfield 26, 3) := by decide +kernel
theorem dX7_laggards_33 : decode cX7_laggards 33 = .ok (.getfield 128, 3) := by decide +kernel
theorem dX7_laggards_36 : decode cX7_laggards 36 = .ok (.iload_n 2, 1) := by decide +kernel
theorem dX7_laggards_37 : decode cX7_laggards 37 = .ok (.invokevirtual 135, 3) := by decide +kernel
theorem dX7_laggards_40 : decode cX7_laggards 40 = .ok (.invokestatic 204, 3) := by decide +kernel
theorem dX7_laggards_43 : decode cX7_laggards 43 = .ok (.istore_n 3, 1) := by decide +kernel
theorem dX7_laggards_44 : decode cX7_laggards 44 = .ok (.aload_n 0, 1) := by decide +kernel
theorem dX7_laggards_45 : decode cX7_laggards 45 = .ok (.getfield 48, 3) := by decide +kernel
theorem dX7_laggards_48 : decode cX7_laggards 48 = .ok (.aload_n 0, 1) := by decide +kernel
theorem dX7_laggards_49 : decode cX7_laggards 49 = .ok (.getfield 26, 3) := by decide +kernel
theorem dX7_laggards_52 : decode cX7_laggards 52 = .ok (.getfield 118, 3) := by decide +kernel
theorem dX7_laggards_55 : decode cX7_laggards 55 = .ok (.iload_n 3, 1) := by decide +kernel
theorem dX7_laggards_56 : decode cX7_laggards 56 = .ok (.aload_n 0, 1) := by decide +kernel
theorem dX7_laggards_57 : decode cX7_laggards 57 = .ok (.getfield 19, 3) := by decide +kernel
theorem dX7_laggards_60 : decode cX7_laggards 60 = .ok (.invokevirtual 207, 3) := by decide +kernel
theorem dX7_laggards_63 : decode cX7_laggards 63 = .ok (.iload_n 1, 1) := by decide +kernel
theorem dX7_laggards_64 : decode cX7_laggards 64 = .ok (.invokevirtual 210, 3) := by decide +kernel
theorem dX7_laggards_67 : decode cX7_laggards 67 = .ok (.ifCond .ne 5, 3) := by decide +kernel
theorem dX7_laggards_70 : decode cX7_laggards 70 = .ok (.iload_n 2, 1) := by decide +kernel
theorem dX7_laggards_71 : decode cX7_laggards 71 = .ok (.ireturn, 1) := by decide +kernel
theorem dX7_laggards_72 : decode cX7_laggards 72 = .ok (.iinc 2 1, 3) := by decide +kernel
theorem dX7_laggards_75 : decode cX7_laggards 75 = .ok (.goto (-63), 3) := by decide +kernel
theorem dX7_laggards_78 : decode cX7_laggards 78 = .ok (.iconst (-1), 1) := by decide +kernel
theorem dX7_laggards_79 : decode cX7_laggards 79 = .ok (.ireturn, 1) := by decide +kernel
set_option maxRecDepth 20000 in
theorem ggX7_horses_X7_isOutOfDay : GoodIn wsX7_horses wsX7_isOutOfDay := goodIn_r _ [10, 11, 12, 9, 13] (by decide +kernel) (by decide +kernel)
set_option maxRecDepth 20000 in
theorem gX7_horses_X7_isOutOfDay : GoodIn wsX7_horses (va_wsS RX7 178 yX7_isOutOfDay wsX7_isOutOfDay) := goodIn_app (goodIn_of _ (by decide +kernel)) ggX7_horses_X7_isOutOfDay
set_option maxRecDepth 20000 in
theorem ggX7_horses_X0_laggardsTold : GoodIn wsX7_horses wsX0_laggardsTold := goodIn_r _ [18, 19, 71] (by decide +kernel) (by decide +kernel)
set_option maxRecDepth 20000 in
theorem gX7_horses_X0_laggardsTold : GoodIn wsX7_horses (wsV RX7 131 RX0 yX0_laggardsTold wsX0_laggardsTold) := goodIn_app (goodIn_of _ (by decide +kernel)) ggX7_horses_X0_laggardsTold
set_option maxRecDepth 20000 in
theorem ggX7_horses_X0_swayBy : GoodIn wsX7_horses wsX0_swayBy := goodIn_r _ [23, 19, 24, 25, 26, 27, 28, 29, 30, 71] (by decide +kernel) (by decide +kernel)
set_option maxRecDepth 20000 in
theorem gX7_horses_X0_swayBy : GoodIn wsX7_horses (wsV RX7 135 RX0 yX0_swayBy wsX0_swayBy) := goodIn_app (goodIn_of _ (by decide +kernel)) ggX7_horses_X0_swayBy
set_option maxRecDepth 20000 in
theorem ggX7_horses_X0_forceOf : GoodIn wsX7_horses wsX0_forceOf := goodIn_r _ [33] (by decide +kernel) (by decide +kernel)
set_option maxRecDepth 20000 in
theorem gX7_horses_X0_forceOf : GoodIn wsX7_horses (va_wsS RX7 204 yX0_forceOf wsX0_forceOf) := goodIn_app (goodIn_of _ (by decide +kernel)) ggX7_horses_X0_forceOf
set_option maxRecDepth 20000 in
theorem ggX7_horses_X0_axeMinutes : GoodIn wsX7_horses wsX0_axeMinutes := goodIn_r _ [37, 19, 71] (by decide +kernel) (by decide +kernel)
set_option maxRecDepth 20000 in
theorem gX7_horses_X0_axeMinutes : GoodIn wsX7_horses (wsV RX7 207 RX0 yX0_axeMinutes wsX0_axeMinutes) := goodIn_app (goodIn_of _ (by decide +kernel)) ggX7_horses_X0_axeMinutes
set_option maxRecDepth 20000 in
theorem ggX7_horses_X4_passes : GoodIn wsX7_horses wsX4_passes := goodIn_r _ [42, 43, 44, 45, 46, 47, 41, 48, 49, 50, 51, 52, 53, 54, 55, 56, 72, 73, 74, 75, 76, 77, 78, 79, 80] (by decide +kernel) (by decide +kernel)
set_option maxRecDepth 20000 in
theorem gX7_horses_X4_passes : GoodIn wsX7_horses (wsV RX7 210 RX4 yX4_passes wsX4_passes) := goodIn_app (goodIn_of _ (by decide +kernel)) ggX7_horses_X4_passes
theorem dX7_horses_0 : decode cX7_horses 0 = .ok (.iload_n 1, 1) := by decide +kernel
theorem dX7_horses_1 : decode cX7_horses 1 = .ok (.invokestatic 178, 3) := by decide +kernel
theorem dX7_horses_4 : decode cX7_horses 4 = .ok (.ifCond .eq 6, 3) := by decide +kernel
theorem dX7_horses_7 : decode cX7_horses 7 = .ok (.ldc 74, 2) := by decide +kernel
theorem dX7_horses_9 : decode cX7_horses 9 = .ok (.ireturn, 1) := by decide +kernel
theorem dX7_horses_10 : decode cX7_horses 10 = .ok (.aload_n 0, 1) := by decide +kernel
theorem dX7_horses_11 : decode cX7_horses 11 = .ok (.getfield 19, 3) := by decide +kernel
theorem dX7_horses_14 : decode cX7_horses 14 = .ok (.aload_n 0, 1) := by decide +kernel
theorem dX7_horses_15 : decode cX7_horses 15 = .ok (.getfield 26, 3) := by decide +kernel
theorem dX7_horses_18 : decode cX7_horses 18 = .ok (.getfield 128, 3) := by decide +kernel
theorem dX7_horses_21 : decode cX7_horses 21 = .ok (.aload_n 0, 1) := by decide +kernel
theorem dX7_horses_22 : decode cX7_horses 22 = .ok (.getfield 19, 3) := by decide +kernel
theorem dX7_horses_25 : decode cX7_horses 25 = .ok (.invokevirtual 131, 3) := by decide +kernel
theorem dX7_horses_28 : decode cX7_horses 28 = .ok (.invokevirtual 135, 3) := by decide +kernel
theorem dX7_horses_31 : decode cX7_horses 31 = .ok (.istore_n 2, 1) := by decide +kernel
theorem dX7_horses_32 : decode cX7_horses 32 = .ok (.iconst 1, 1) := by decide +kernel
theorem dX7_horses_33 : decode cX7_horses 33 = .ok (.istore_n 3, 1) := by decide +kernel
theorem dX7_horses_34 : decode cX7_horses 34 = .ok (.iload_n 3, 1) := by decide +kernel
theorem dX7_horses_35 : decode cX7_horses 35 = .ok (.bipush 12, 2) := by decide +kernel
theorem dX7_horses_37 : decode cX7_horses 37 = .ok (.if_icmp .gt 41, 3) := by decide +kernel
theorem dX7_horses_40 : decode cX7_horses 40 = .ok (.aload_n 0, 1) := by decide +kernel
theorem dX7_horses_41 : decode cX7_horses 41 = .ok (.getfield 48, 3) := by decide +kernel
theorem dX7_horses_44 : decode cX7_horses 44 = .ok (.aload_n 0, 1) := by decide +kernel
theorem dX7_horses_45 : decode cX7_horses 45 = .ok (.getfield 26, 3) := by decide +kernel
theorem dX7_horses_48 : decode cX7_horses 48 = .ok (.getfield 118, 3) := by decide +kernel
theorem dX7_horses_51 : decode cX7_horses 51 = .ok (.iload_n 3, 1) := by decide +kernel
theorem dX7_horses_52 : decode cX7_horses 52 = .ok (.iload_n 2, 1) := by decide +kernel
theorem dX7_horses_53 : decode cX7_horses 53 = .ok (.invokestatic 204, 3) := by decide +kernel
theorem dX7_horses_56 : decode cX7_horses 56 = .ok (.aload_n 0, 1) := by decide +kernel
theorem dX7_horses_57 : decode cX7_horses 57 = .ok (.getfield 19, 3) := by decide +kernel
theorem dX7_horses_60 : decode cX7_horses 60 = .ok (.invokevirtual 207, 3) := by decide +kernel
theorem dX7_horses_63 : decode cX7_horses 63 = .ok (.iload_n 1, 1) := by decide +kernel
theorem dX7_horses_64 : decode cX7_horses 64 = .ok (.invokevirtual 210, 3) := by decide +kernel
theorem dX7_horses_67 : decode cX7_horses 67 = .ok (.ifCond .eq 5, 3) := by decide +kernel
theorem dX7_horses_70 : decode cX7_horses 70 = .ok (.iload_n 3, 1) := by decide +kernel
theorem dX7_horses_71 : decode cX7_horses 71 = .ok (.ireturn, 1) := by decide +kernel
theorem dX7_horses_72 : decode cX7_horses 72 = .ok (.iinc 3 1, 3) := by decide +kernel
theorem dX7_horses_75 : decode cX7_horses 75 = .ok (.goto (-41), 3) := by decide +kernel
theorem dX7_horses_78 : decode cX7_horses 78 = .ok (.iconst (-1), 1) := by decide +kernel
theorem dX7_horses_79 : decode cX7_horses 79 = .ok (.ireturn, 1) := by decide +kernel
set_option maxRecDepth 20000 in
theorem ggX7_string_X7_isOutOfDay : GoodIn wsX7_string wsX7_isOutOfDay := goodIn_r _ [8, 9, 10, 7, 11] (by decide +kernel) (by decide +kernel)
set_option maxRecDepth 20000 in
theorem gX7_string_X7_isOutOfDay : GoodIn wsX7_string (va_wsS RX7 178 yX7_isOutOfDay wsX7_isOutOfDay) := goodIn_app (goodIn_of _ (by decide +kernel)) ggX7_string_X7_isOutOfDay
set_option maxRecDepth 20000 in
theorem ggX7_string_X7_isOut : GoodIn wsX7_string wsX7_isOut := goodIn_r _ [11] (by decide +kernel) (by decide +kernel)
set_option maxRecDepth 20000 in
theorem gX7_string_X7_isOut : GoodIn wsX7_string (va_wsS RX7 70 yX7_isOut wsX7_isOut) := goodIn_app (goodIn_of _ (by decide +kernel)) ggX7_string_X7_isOut
set_option maxRecDepth 20000 in
theorem ggX7_string_X7_goFromNow : GoodIn wsX7_string wsX7_goFromNow := goodIn_r _ [15, 2, 16, 17, 4, 18, 19, 20, 7, 21, 22, 23, 24, 25, 26, 27, 28, 29, 30, 31, 32, 33, 34, 35, 36, 37, 38, 39, 40, 41, 42, 43, 44, 45, 46, 47, 48, 49, 50, 51, 52, 53, 54, 55, 56, 57, 58, 59, 60, 61, 62, 63, 64, 65, 66, 67, 68, 69, 74, 75, 76, 77, 78, 79, 80, 81, 82, 83, 88, 89, 90, 91, 92, 84, 85, 86, 87, 93, 94, 95, 96, 97] (by decide +kernel) (by decide +kernel)
set_option maxRecDepth 20000 in
theorem gX7_string_X7_goFromNow : GoodIn wsX7_string (wsV RX7 182 RX7 yX7_goFromNow wsX7_goFromNow) := goodIn_app (goodIn_of _ (by decide +kernel)) ggX7_string_X7_goFromNow
set_option maxRecDepth 20000 in
theorem ggX7_string_X0_gapMinutes : GoodIn wsX7_string wsX0_gapMinutes := goodIn_r _ [73, 32, 92] (by decide +kernel) (by decide +kernel)
set_option maxRecDepth 20000 in
theorem gX7_string_X0_gapMinutes : GoodIn wsX7_string (wsV RX7 217 RX0 yX0_gapMinutes wsX0_gapMinutes) := goodIn_app (goodIn_of _ (by decide +kernel)) ggX7_string_X0_gapMinutes
theorem dX7_string_0 : decode cX7_string 0 = .ok (.iload_n 1, 1) := by decide +kernel
theorem dX7_string_1 : decode cX7_string 1 = .ok (.invokestatic 178, 3) := by decide +kernel
theorem dX7_string_4 : decode cX7_string 4 = .ok (.ifCond .ne 13, 3) := by decide +kernel
theorem dX7_string_7 : decode cX7_string 7 = .ok (.iload_n 2, 1) := by decide +kernel
theorem dX7_string_8 : decode cX7_string 8 = .ok (.iconst 1, 1) := by decide +kernel
theorem dX7_string_9 : decode cX7_string 9 = .ok (.bipush 99, 2) := by decide +kernel
theorem dX7_string_11 : decode cX7_string 11 = .ok (.invokestatic 70, 3) := by decide +kernel
theorem dX7_string_14 : decode cX7_string 14 = .ok (.ifCond .eq 6, 3) := by decide +kernel
theorem dX7_string_17 : decode cX7_string 17 = .ok (.ldc 74, 2) := by decide +kernel
theorem dX7_string_19 : decode cX7_string 19 = .ok (.ireturn, 1) := by decide +kernel
theorem dX7_string_20 : decode cX7_string 20 = .ok (.aload_n 0, 1) := by decide +kernel
theorem dX7_string_21 : decode cX7_string 21 = .ok (.iload_n 1, 1) := by decide +kernel
theorem dX7_string_22 : decode cX7_string 22 = .ok (.invokevirtual 182, 3) := by decide +kernel
theorem dX7_string_25 : decode cX7_string 25 = .ok (.aload_n 0, 1) := by decide +kernel
theorem dX7_string_26 : decode cX7_string 26 = .ok (.getfield 48, 3) := by decide +kernel
theorem dX7_string_29 : decode cX7_string 29 = .ok (.getfield 214, 3) := by decide +kernel
theorem dX7_string_32 : decode cX7_string 32 = .ok (.iconst (-1), 1) := by decide +kernel
theorem dX7_string_33 : decode cX7_string 33 = .ok (.if_icmp .ne 5, 3) := by decide +kernel
theorem dX7_string_36 : decode cX7_string 36 = .ok (.iconst (-1), 1) := by decide +kernel
theorem dX7_string_37 : decode cX7_string 37 = .ok (.ireturn, 1) := by decide +kernel
theorem dX7_string_38 : decode cX7_string 38 = .ok (.aload_n 0, 1) := by decide +kernel
theorem dX7_string_39 : decode cX7_string 39 = .ok (.getfield 19, 3) := by decide +kernel
theorem dX7_string_42 : decode cX7_string 42 = .ok (.invokevirtual 217, 3) := by decide +kernel
theorem dX7_string_45 : decode cX7_string 45 = .ok (.iconst 1, 1) := by decide +kernel
theorem dX7_string_46 : decode cX7_string 46 = .ok (.isub, 1) := by decide +kernel
theorem dX7_string_47 : decode cX7_string 47 = .ok (.iload_n 2, 1) := by decide +kernel
theorem dX7_string_48 : decode cX7_string 48 = .ok (.idiv, 1) := by decide +kernel
theorem dX7_string_49 : decode cX7_string 49 = .ok (.ireturn, 1) := by decide +kernel
set_option maxRecDepth 20000 in
theorem ggX7_turn_X7_isOutOfDay : GoodIn wsX7_turn wsX7_isOutOfDay := goodIn_r _ [7, 8, 9, 6, 10] (by decide +kernel) (by decide +kernel)
set_option maxRecDepth 20000 in
theorem gX7_turn_X7_isOutOfDay : GoodIn wsX7_turn (va_wsS RX7 178 yX7_isOutOfDay wsX7_isOutOfDay) := goodIn_app (goodIn_of _ (by decide +kernel)) ggX7_turn_X7_isOutOfDay
set_option maxRecDepth 20000 in
theorem ggX7_turn_X7_goFromNow : GoodIn wsX7_turn wsX7_goFromNow := goodIn_r _ [14, 2, 15, 16, 3, 17, 18, 19, 6, 20, 21, 22, 23, 24, 25, 26, 27, 28, 29, 30, 31, 32, 33, 34, 35, 36, 37, 38, 39, 40, 41, 42, 43, 44, 45, 46, 47, 48, 49, 50, 51, 52, 53, 54, 55, 56, 57, 58, 59, 60, 61, 62, 63, 64, 65, 66, 67, 68, 81, 82, 83, 84, 85, 86, 87, 88, 89, 90, 91, 92, 93, 94, 95, 96, 97, 98, 99, 100, 101, 102, 103, 104] (by decide +kernel) (by decide +kernel)
set_option maxRecDepth 20000 in
theorem gX7_turn_X7_goFromNow : GoodIn wsX7_turn (wsV RX7 182 RX7 yX7_goFromNow wsX7_goFromNow) := goodIn_app (goodIn_of _ (by decide +kernel)) ggX7_turn_X7_goFromNow
set_option maxRecDepth 20000 in
theorem ggX7_turn_X0_gapMinutes : GoodIn wsX7_turn wsX0_gapMinutes := goodIn_r _ [72, 31, 95] (by decide +kernel) (by decide +kernel)
set_option maxRecDepth 20000 in
theorem gX7_turn_X0_gapMinutes : GoodIn wsX7_turn (wsV RX7 217 RX0 yX0_gapMinutes wsX0_gapMinutes) := goodIn_app (goodIn_of _ (by decide +kernel)) ggX7_turn_X0_gapMinutes
set_option maxRecDepth 20000 in
theorem ggX7_turn_X4_furthestTurn : GoodIn wsX7_turn wsX4_furthestTurn := goodIn_r _ [76, 59, 65, 77, 78, 79, 57, 80, 61, 96, 97, 98, 99] (by decide +kernel) (by decide +kernel)
set_option maxRecDepth 20000 in
theorem gX7_turn_X4_furthestTurn : GoodIn wsX7_turn (wsV RX7 220 RX4 yX4_furthestTurn wsX4_furthestTurn) := goodIn_app (goodIn_of _ (by decide +kernel)) ggX7_turn_X4_furthestTurn
theorem dX7_turn_0 : decode cX7_turn 0 = .ok (.iload_n 1, 1) := by decide +kernel
theorem dX7_turn_1 : decode cX7_turn 1 = .ok (.invokestatic 178, 3) := by decide +kernel
theorem dX7_turn_4 : decode cX7_turn 4 = .ok (.ifCond .eq 6, 3) := by decide +kernel
theorem dX7_turn_7 : decode cX7_turn 7 = .ok (.ldc 74, 2) := by decide +kernel
theorem dX7_turn_9 : decode cX7_turn 9 = .ok (.ireturn, 1) := by decide +kernel
theorem dX7_turn_10 : decode cX7_turn 10 = .ok (.aload_n 0, 1) := by decide +kernel
theorem dX7_turn_11 : decode cX7_turn 11 = .ok (.iload_n 1, 1) := by decide +kernel
theorem dX7_turn_12 : decode cX7_turn 12 = .ok (.invokevirtual 182, 3) := by decide +kernel
theorem dX7_turn_15 : decode cX7_turn 15 = .ok (.aload_n 0, 1) := by decide +kernel
theorem dX7_turn_16 : decode cX7_turn 16 = .ok (.getfield 48, 3) := by decide +kernel
theorem dX7_turn_19 : decode cX7_turn 19 = .ok (.iload_n 1, 1) := by decide +kernel
theorem dX7_turn_20 : decode cX7_turn 20 = .ok (.aload_n 0, 1) := by decide +kernel
theorem dX7_turn_21 : decode cX7_turn 21 = .ok (.getfield 19, 3) := by decide +kernel
theorem dX7_turn_24 : decode cX7_turn 24 = .ok (.invokevirtual 217, 3) := by decide +kernel
theorem dX7_turn_27 : decode cX7_turn 27 = .ok (.invokevirtual 220, 3) := by decide +kernel
theorem dX7_turn_30 : decode cX7_turn 30 = .ok (.ireturn, 1) := by decide +kernel
set_option maxRecDepth 20000 in
theorem ggX7_plan_X7_isOut : GoodIn wsX7_plan wsX7_isOut := goodIn_r _ [13] (by decide +kernel) (by decide +kernel)
set_option maxRecDepth 20000 in
theorem gX7_plan_X7_isOut : GoodIn wsX7_plan (va_wsS RX7 70 yX7_isOut wsX7_isOut) := goodIn_app (goodIn_of _ (by decide +kernel)) ggX7_plan_X7_isOut
set_option maxRecDepth 20000 in
theorem ggX7_plan_X7_isOutOfDay : GoodIn wsX7_plan wsX7_isOutOfDay := goodIn_r _ [16, 10, 11, 12, 13] (by decide +kernel) (by decide +kernel)
set_option maxRecDepth 20000 in
theorem gX7_plan_X7_isOutOfDay : GoodIn wsX7_plan (va_wsS RX7 178 yX7_isOutOfDay wsX7_isOutOfDay) := goodIn_app (goodIn_of _ (by decide +kernel)) ggX7_plan_X7_isOutOfDay
set_option maxRecDepth 20000 in
theorem ggX7_plan_X2_start : GoodIn wsX7_plan wsX2_start := goodIn_r _ [21, 22, 23, 24, 25, 26, 27, 28, 29, 30, 31, 32, 33, 34, 35, 36, 37, 38, 39, 40, 41, 42, 43, 44, 45, 46, 47, 48, 49, 50, 51, 52, 53, 54, 55, 56, 57, 58, 59, 60, 61, 62, 63, 64, 65, 66, 67, 68, 69, 70, 71, 72, 73, 172, 173, 174, 175, 176, 177, 178, 179, 180, 181, 182, 183, 184, 185, 163, 164, 165, 166, 167, 168, 169, 170, 171, 186] (by decide +kernel) (by decide +kernel)
set_option maxRecDepth 20000 in
theorem gX7_plan_X2_start : GoodIn wsX7_plan (wsV RX7 223 RX2 yX2_start wsX2_start) := goodIn_app (goodIn_of _ (by decide +kernel)) ggX7_plan_X2_start
set_option maxRecDepth 20000 in
theorem ggX7_plan_X2_findPlan : GoodIn wsX7_plan wsX2_findPlan := goodIn_r _ [77, 78, 79, 80, 81, 82, 83, 84, 85, 86, 87, 46, 88, 52, 89, 90, 91, 92, 93, 94, 95, 96, 97, 98, 99, 20, 100, 28, 101, 62, 26, 63, 22, 102, 31, 32, 29, 103, 104, 105, 106, 107, 33, 34, 35, 36, 37, 38, 39, 40, 41, 42, 108, 109, 110, 111, 112, 113, 114, 115, 116, 117, 118, 119, 120, 121, 122, 123, 124, 125, 126, 25, 27, 127, 128, 129, 130, 131, 132, 133, 134, 135, 136, 137, 138, 139, 140, 141, 142, 143, 144, 145, 146, 147, 148, 149, 150, 151, 152, 172, 173, 174, 175, 176, 177, 178, 179, 180, 181, 182, 183, 184, 185, 186, 187, 188, 189, 190, 167, 168, 169, 170, 171] (by decide +kernel) (by decide +kernel)
set_option maxRecDepth 20000 in
theorem gX7_plan_X2_findPlan : GoodIn wsX7_plan (wsV RX7 227 RX2 yX2_findPlan wsX2_findPlan) := goodIn_app (goodIn_of _ (by decide +kernel)) ggX7_plan_X2_findPlan
theorem dX7_plan_0 : decode cX7_plan 0 = .ok (.iload_n 1, 1) := by decide +kernel
theorem dX7_plan_1 : decode cX7_plan 1 = .ok (.iconst 1, 1) := by decide +kernel
theorem dX7_plan_2 : decode cX7_plan 2 = .ok (.bipush 8, 2) := by decide +kernel
theorem dX7_plan_4 : decode cX7_plan 4 = .ok (.invokestatic 70, 3) := by decide +kernel
theorem dX7_plan_7 : decode cX7_plan 7 = .ok (.ifCond .ne 30, 3) := by decide +kernel
theorem dX7_plan_10 : decode cX7_plan 10 = .ok (.iload_n 2, 1) := by decide +kernel
theorem dX7_plan_11 : decode cX7_plan 11 = .ok (.invokestatic 178, 3) := by decide +kernel
theorem dX7_plan_14 : decode cX7_plan 14 = .ok (.ifCond .ne 23, 3) := by decide +kernel
theorem dX7_plan_17 : decode cX7_plan 17 = .ok (.iload_n 3, 1) := by decide +kernel
theorem dX7_plan_18 : decode cX7_plan 18 = .ok (.iconst 0, 1) := by decide +kernel
theorem dX7_plan_19 : decode cX7_plan 19 = .ok (.bipush 30, 2) := by decide +kernel
theorem dX7_plan_21 : decode cX7_plan 21 = .ok (.invokestatic 70, 3) := by decide +kernel
theorem dX7_plan_24 : decode cX7_plan 24 = .ok (.ifCond .ne 13, 3) := by decide +kernel
theorem dX7_plan_27 : decode cX7_plan 27 = .ok (.iload 4, 2) := by decide +kernel
theorem dX7_plan_29 : decode cX7_plan 29 = .ok (.iconst 0, 1) := by decide +kernel
theorem dX7_plan_30 : decode cX7_plan 30 = .ok (.iconst 1, 1) := by decide +kernel
theorem dX7_plan_31 : decode cX7_plan 31 = .ok (.invokestatic 70, 3) := by decide +kernel
theorem dX7_plan_34 : decode cX7_plan 34 = .ok (.ifCond .eq 6, 3) := by decide +kernel
theorem dX7_plan_37 : decode cX7_plan 37 = .ok (.ldc 74, 2) := by decide +kernel
theorem dX7_plan_39 : decode cX7_plan 39 = .ok (.ireturn, 1) := by decide +kernel
theorem dX7_plan_40 : decode cX7_plan 40 = .ok (.aload_n 0, 1) := by decide +kernel
theorem dX7_plan_41 : decode cX7_plan 41 = .ok (.getfield 26, 3) := by decide +kernel
theorem dX7_plan_44 : decode cX7_plan 44 = .ok (.getfield 118, 3) := by decide +kernel
theorem dX7_plan_47 : decode cX7_plan 47 = .ok (.getfield 121, 3) := by decide +kernel
theorem dX7_plan_50 : decode cX7_plan 50 = .ok (.ifCond .ne 6, 3) := by decide +kernel
theorem dX7_plan_53 : decode cX7_plan 53 = .ok (.ldc 181, 2) := by decide +kernel
theorem dX7_plan_55 : decode cX7_plan 55 = .ok (.ireturn, 1) := by decide +kernel
theorem dX7_plan_56 : decode cX7_plan 56 = .ok (.aload_n 0, 1) := by decide +kernel
theorem dX7_plan_57 : decode cX7_plan 57 = .ok (.getfield 62, 3) := by decide +kernel
theorem dX7_plan_60 : decode cX7_plan 60 = .ok (.aload_n 0, 1) := by decide +kernel
theorem dX7_plan_61 : decode cX7_plan 61 = .ok (.getfield 26, 3) := by decide +kernel
theorem dX7_plan_64 : decode cX7_plan 64 = .ok (.aload_n 0, 1) := by decide +kernel
theorem dX7_plan_65 : decode cX7_plan 65 = .ok (.getfield 19, 3) := by decide +kernel
theorem dX7_plan_68 : decode cX7_plan 68 = .ok (.iload_n 1, 1) := by decide +kernel
theorem dX7_plan_69 : decode cX7_plan 69 = .ok (.iload_n 2, 1) := by decide +kernel
theorem dX7_plan_70 : decode cX7_plan 70 = .ok (.invokevirtual 223, 3) := by decide +kernel
theorem dX7_plan_73 : decode cX7_plan 73 = .ok (.aload_n 0, 1) := by decide +kernel
theorem dX7_plan_74 : decode cX7_plan 74 = .ok (.getfield 62, 3) := by decide +kernel
theorem dX7_plan_77 : decode cX7_plan 77 = .ok (.aload_n 0, 1) := by decide +kernel
theorem dX7_plan_78 : decode cX7_plan 78 = .ok (.getfield 19, 3) := by decide +kernel
theorem dX7_plan_81 : decode cX7_plan 81 = .ok (.iload_n 3, 1) := by decide +kernel
theorem dX7_plan_82 : decode cX7_plan 82 = .ok (.invokevirtual 227, 3) := by decide +kernel
theorem dX7_plan_85 : decode cX7_plan 85 = .ok (.iload 4, 2) := by decide +kernel
theorem dX7_plan_87 : decode cX7_plan 87 = .ok (.ifCond .ne 13, 3) := by decide +kernel
theorem dX7_plan_90 : decode cX7_plan 90 = .ok (.aload_n 0, 1) := by decide +kernel
theorem dX7_plan_91 : decode cX7_plan 91 = .ok (.getfield 62, 3) := by decide +kernel
theorem dX7_plan_94 : decode cX7_plan 94 = .ok (.getfield 231, 3) := by decide +kernel
theorem dX7_plan_97 : decode cX7_plan 97 = .ok (.goto 10, 3) := by decide +kernel
theorem dX7_plan_100 : decode cX7_plan 100 = .ok (.aload_n 0, 1) := by decide +kernel
theorem dX7_plan_101 : decode cX7_plan 101 = .ok (.getfield 62, 3) := by decide +kernel
theorem dX7_plan_104 : decode cX7_plan 104 = .ok (.getfield 234, 3) := by decide +kernel
theorem dX7_plan_107 : decode cX7_plan 107 = .ok (.ireturn, 1) := by decide +kernel
set_option maxRecDepth 20000 in
theorem ggX7_lost_X7_isOut : GoodIn wsX7_lost wsX7_isOut := goodIn_r _ [10] (by decide +kernel) (by decide +kernel)
set_option maxRecDepth 20000 in
theorem gX7_lost_X7_isOut : GoodIn wsX7_lost (va_wsS RX7 70 yX7_isOut wsX7_isOut) := goodIn_app (goodIn_of _ (by decide +kernel)) ggX7_lost_X7_isOut
set_option maxRecDepth 20000 in
theorem ggX7_lost_X7_isOutOfDay : GoodIn wsX7_lost wsX7_isOutOfDay := goodIn_r _ [13, 7, 8, 9, 10] (by decide +kernel) (by decide +kernel)
set_option maxRecDepth 20000 in
theorem gX7_lost_X7_isOutOfDay : GoodIn wsX7_lost (va_wsS RX7 178 yX7_isOutOfDay wsX7_isOutOfDay) := goodIn_app (goodIn_of _ (by decide +kernel)) ggX7_lost_X7_isOutOfDay
set_option maxRecDepth 20000 in
theorem ggX7_lost_X7_forceNow : GoodIn wsX7_lost wsX7_forceNow := goodIn_r _ [17, 6, 3, 18, 19, 20, 21, 22, 23, 24, 25, 26, 27, 28, 29, 30, 31, 32, 33, 34, 35, 36, 37, 38, 39, 40, 41, 42, 43, 44, 45, 46, 104, 105, 106, 107, 108, 109, 110, 111, 112, 113, 114, 115, 116, 117, 118] (by decide +kernel) (by decide +kernel)
set_option maxRecDepth 20000 in
theorem gX7_lost_X7_forceNow : GoodIn wsX7_lost (wsV RX7 139 RX7 yX7_forceNow wsX7_forceNow) := goodIn_app (goodIn_of _ (by decide +kernel)) ggX7_lost_X7_forceNow
set_option maxRecDepth 20000 in
theorem ggX7_lost_X6_copyFrom : GoodIn wsX7_lost wsX6_copyFrom := goodIn_r _ [51, 52, 53, 54, 55, 56, 119, 120, 121, 122, 123] (by decide +kernel) (by decide +kernel)
set_option maxRecDepth 20000 in
theorem gX7_lost_X6_copyFrom : GoodIn wsX7_lost (wsV RX7 237 RX6 yX6_copyFrom wsX6_copyFrom) := goodIn_app (goodIn_of _ (by decide +kernel)) ggX7_lost_X6_copyFrom
set_option maxRecDepth 20000 in
theorem ggX7_lost_X6_freeze : GoodIn wsX7_lost wsX6_freeze := goodIn_r _ [60, 52, 55, 54, 61, 62, 63, 50, 64, 53, 56, 65, 66, 67, 68, 69, 70, 71, 72, 73, 74, 75, 76, 39, 77, 78, 79, 80, 119, 120, 121, 122, 123] (by decide +kernel) (by decide +kernel)
set_option maxRecDepth 20000 in
theorem gX7_lost_X6_freeze : GoodIn wsX7_lost (wsV RX7 241 RX6 yX6_freeze wsX6_freeze) := goodIn_app (goodIn_of _ (by decide +kernel)) ggX7_lost_X6_freeze
set_option maxRecDepth 20000 in
theorem ggX7_lost_X0_axeMinutes : GoodIn wsX7_lost wsX0_axeMinutes := goodIn_r _ [84, 28, 118] (by decide +kernel) (by decide +kernel)
set_option maxRecDepth 20000 in
theorem gX7_lost_X0_axeMinutes : GoodIn wsX7_lost (wsV RX7 207 RX0 yX0_axeMinutes wsX0_axeMinutes) := goodIn_app (goodIn_of _ (by decide +kernel)) ggX7_lost_X0_axeMinutes
set_option maxRecDepth 20000 in
theorem ggX7_lost_X4_passes : GoodIn wsX7_lost wsX4_passes := goodIn_r _ [89, 90, 91, 92, 93, 94, 88, 95, 96, 97, 98, 99, 100, 101, 102, 103, 124, 125, 126, 127, 119, 120, 121, 122, 123] (by decide +kernel) (by decide +kernel)
set_option maxRecDepth 20000 in
theorem gX7_lost_X4_passes : GoodIn wsX7_lost (wsV RX7 210 RX4 yX4_passes wsX4_passes) := goodIn_app (goodIn_of _ (by decide +kernel)) ggX7_lost_X4_passes
theorem dX7_lost_0 : decode cX7_lost 0 = .ok (.iload_n 1, 1) := by decide +kernel
theorem dX7_lost_1 : decode cX7_lost 1 = .ok (.iconst 0, 1) := by decide +kernel
theorem dX7_lost_2 : decode cX7_lost 2 = .ok (.bipush 30, 2) := by decide +kernel
theorem dX7_lost_4 : decode cX7_lost 4 = .ok (.invokestatic 70, 3) := by decide +kernel
theorem dX7_lost_7 : decode cX7_lost 7 = .ok (.ifCond .ne 10, 3) := by decide +kernel
theorem dX7_lost_10 : decode cX7_lost 10 = .ok (.iload_n 2, 1) := by decide +kernel
theorem dX7_lost_11 : decode cX7_lost 11 = .ok (.invokestatic 178, 3) := by decide +kernel
theorem dX7_lost_14 : decode cX7_lost 14 = .ok (.ifCond .eq 6, 3) := by decide +kernel
theorem dX7_lost_17 : decode cX7_lost 17 = .ok (.ldc 74, 2) := by decide +kernel
theorem dX7_lost_19 : decode cX7_lost 19 = .ok (.ireturn, 1) := by decide +kernel
theorem dX7_lost_20 : decode cX7_lost 20 = .ok (.aload_n 0, 1) := by decide +kernel
theorem dX7_lost_21 : decode cX7_lost 21 = .ok (.invokevirtual 139, 3) := by decide +kernel
theorem dX7_lost_24 : decode cX7_lost 24 = .ok (.istore_n 3, 1) := by decide +kernel
theorem dX7_lost_25 : decode cX7_lost 25 = .ok (.aload_n 0, 1) := by decide +kernel
theorem dX7_lost_26 : decode cX7_lost 26 = .ok (.getfield 55, 3) := by decide +kernel
theorem dX7_lost_29 : decode cX7_lost 29 = .ok (.aload_n 0, 1) := by decide +kernel
theorem dX7_lost_30 : decode cX7_lost 30 = .ok (.getfield 26, 3) := by decide +kernel
theorem dX7_lost_33 : decode cX7_lost 33 = .ok (.getfield 118, 3) := by decide +kernel
theorem dX7_lost_36 : decode cX7_lost 36 = .ok (.invokevirtual 237, 3) := by decide +kernel
theorem dX7_lost_39 : decode cX7_lost 39 = .ok (.iconst 0, 1) := by decide +kernel
theorem dX7_lost_40 : decode cX7_lost 40 = .ok (.istore 4, 2) := by decide +kernel
theorem dX7_lost_42 : decode cX7_lost 42 = .ok (.iload 4, 2) := by decide +kernel
theorem dX7_lost_44 : decode cX7_lost 44 = .ok (.bipush 60, 2) := by decide +kernel
theorem dX7_lost_46 : decode cX7_lost 46 = .ok (.if_icmp .gt 48, 3) := by decide +kernel
theorem dX7_lost_49 : decode cX7_lost 49 = .ok (.iload 4, 2) := by decide +kernel
theorem dX7_lost_51 : decode cX7_lost 51 = .ok (.ifCond .le 11, 3) := by decide +kernel
theorem dX7_lost_54 : decode cX7_lost 54 = .ok (.aload_n 0, 1) := by decide +kernel
theorem dX7_lost_55 : decode cX7_lost 55 = .ok (.getfield 55, 3) := by decide +kernel
theorem dX7_lost_58 : decode cX7_lost 58 = .ok (.iload_n 1, 1) := by decide +kernel
theorem dX7_lost_59 : decode cX7_lost 59 = .ok (.invokevirtual 241, 3) := by decide +kernel
theorem dX7_lost_62 : decode cX7_lost 62 = .ok (.aload_n 0, 1) := by decide +kernel
theorem dX7_lost_63 : decode cX7_lost 63 = .ok (.getfield 48, 3) := by decide +kernel
theorem dX7_lost_66 : decode cX7_lost 66 = .ok (.aload_n 0, 1) := by decide +kernel
theorem dX7_lost_67 : decode cX7_lost 67 = .ok (.getfield 55, 3) := by decide +kernel
theorem dX7_lost_70 : decode cX7_lost 70 = .ok (.iload_n 3, 1) := by decide +kernel
theorem dX7_lost_71 : decode cX7_lost 71 = .ok (.aload_n 0, 1) := by decide +kernel
theorem dX7_lost_72 : decode cX7_lost 72 = .ok (.getfield 19, 3) := by decide +kernel
theorem dX7_lost_75 : decode cX7_lost 75 = .ok (.invokevirtual 207, 3) := by decide +kernel
theorem dX7_lost_78 : decode cX7_lost 78 = .ok (.iload_n 2, 1) := by decide +kernel
theorem dX7_lost_79 : decode cX7_lost 79 = .ok (.invokevirtual 210, 3) := by decide +kernel
theorem dX7_lost_82 : decode cX7_lost 82 = .ok (.ifCond .ne 6, 3) := by decide +kernel
theorem dX7_lost_85 : decode cX7_lost 85 = .ok (.iload 4, 2) := by decide +kernel
theorem dX7_lost_87 : decode cX7_lost 87 = .ok (.ireturn, 1) := by decide +kernel
theorem dX7_lost_88 : decode cX7_lost 88 = .ok (.iinc 4 1, 3) := by decide +kernel
theorem dX7_lost_91 : decode cX7_lost 91 = .ok (.goto (-49), 3) := by decide +kernel
theorem dX7_lost_94 : decode cX7_lost 94 = .ok (.iconst (-1), 1) := by decide +kernel
theorem dX7_lost_95 : decode cX7_lost 95 = .ok (.ireturn, 1) := by decide +kernel
set_option maxRecDepth 20000 in
theorem ggX7_odds_X7_isOut : GoodIn wsX7_odds wsX7_isOut := goodIn_r _ [8] (by decide +kernel) (by decide +kernel)
set_option maxRecDepth 20000 in
theorem gX7_odds_X7_isOut : GoodIn wsX7_odds (va_wsS RX7 70 yX7_isOut wsX7_isOut) := goodIn_app (goodIn_of _ (by decide +kernel)) ggX7_odds_X7_isOut
set_option maxRecDepth 20000 in
theorem ggX7_odds_X7_isOutOfDay : GoodIn wsX7_odds wsX7_isOutOfDay := goodIn_r _ [11, 5, 6, 7, 8] (by decide +kernel) (by decide +kernel)
set_option maxRecDepth 20000 in
theorem gX7_odds_X7_isOutOfDay : GoodIn wsX7_odds (va_wsS RX7 178 yX7_isOutOfDay wsX7_isOutOfDay) := goodIn_app (goodIn_of _ (by decide +kernel)) ggX7_odds_X7_isOutOfDay
set_option maxRecDepth 20000 in
theorem ggX7_odds_X2_start : GoodIn wsX7_odds wsX2_start := goodIn_r _ [16, 17, 18, 19, 20, 21, 22, 23, 24, 25, 26, 27, 28, 29, 30, 31, 32, 33, 34, 35, 36, 37, 38, 39, 40, 41, 42, 43, 44, 45, 46, 47, 48, 49, 50, 51, 52, 53, 54, 55, 56, 57, 58, 59, 60, 61, 62, 63, 64, 65, 66, 67, 68, 139, 140, 141, 142, 143, 144, 145, 146, 147, 148, 149, 150, 151, 152, 153, 154, 155, 156, 157, 158, 159, 160, 161, 162] (by decide +kernel) (by decide +kernel)
set_option maxRecDepth 20000 in
theorem gX7_odds_X2_start : GoodIn wsX7_odds (wsV RX7 223 RX2 yX2_start wsX2_start) := goodIn_app (goodIn_of _ (by decide +kernel)) ggX7_odds_X2_start
set_option maxRecDepth 20000 in
theorem ggX7_odds_X2_findOdds : GoodIn wsX7_odds wsX2_findOdds := goodIn_r _ [72, 73, 74, 75, 76, 77, 78, 79, 15, 80, 23, 81, 17, 26, 27, 24, 82, 83, 84, 85, 86, 87, 88, 89, 90, 91, 92, 93, 94, 95, 96, 97, 98, 99, 100, 101, 28, 29, 30, 31, 32, 33, 34, 35, 36, 37, 102, 103, 104, 105, 106, 57, 21, 58, 107, 108, 109, 110, 111, 112, 113, 114, 115, 116, 117, 118, 119, 120, 121, 122, 123, 124, 125, 20, 22, 126, 127, 128, 139, 140, 141, 142, 143, 144, 145, 146, 147, 148, 149, 150, 151, 152, 163, 164, 165, 166, 157, 158, 159, 160, 161] (by decide +kernel) (by decide +kernel)
set_option maxRecDepth 20000 in
theorem gX7_odds_X2_findOdds : GoodIn wsX7_odds (wsV RX7 244 RX2 yX2_findOdds wsX2_findOdds) := goodIn_app (goodIn_of _ (by decide +kernel)) ggX7_odds_X2_findOdds
theorem dX7_odds_0 : decode cX7_odds 0 = .ok (.iload_n 1, 1) := by decide +kernel
theorem dX7_odds_1 : decode cX7_odds 1 = .ok (.iconst 1, 1) := by decide +kernel
theorem dX7_odds_2 : decode cX7_odds 2 = .ok (.bipush 8, 2) := by decide +kernel
theorem dX7_odds_4 : decode cX7_odds 4 = .ok (.invokestatic 70, 3) := by decide +kernel
theorem dX7_odds_7 : decode cX7_odds 7 = .ok (.ifCond .ne 42, 3) := by decide +kernel
theorem dX7_odds_10 : decode cX7_odds 10 = .ok (.iload_n 2, 1) := by decide +kernel
theorem dX7_odds_11 : decode cX7_odds 11 = .ok (.iconst 0, 1) := by decide +kernel
theorem dX7_odds_12 : decode cX7_odds 12 = .ok (.bipush 30, 2) := by decide +kernel
theorem dX7_odds_14 : decode cX7_odds 14 = .ok (.invokestatic 70, 3) := by decide +kernel
theorem dX7_odds_17 : decode cX7_odds 17 = .ok (.ifCond .ne 32, 3) := by decide +kernel
theorem dX7_odds_20 : decode cX7_odds 20 = .ok (.iload_n 3, 1) := by decide +kernel
theorem dX7_odds_21 : decode cX7_odds 21 = .ok (.iconst 0, 1) := by decide +kernel
theorem dX7_odds_22 : decode cX7_odds 22 = .ok (.bipush 60, 2) := by decide +kernel
theorem dX7_odds_24 : decode cX7_odds 24 = .ok (.invokestatic 70, 3) := by decide +kernel
theorem dX7_odds_27 : decode cX7_odds 27 = .ok (.ifCond .ne 22, 3) := by decide +kernel
theorem dX7_odds_30 : decode cX7_odds 30 = .ok (.iload 4, 2) := by decide +kernel
theorem dX7_odds_32 : decode cX7_odds 32 = .ok (.iconst 0, 1) := by decide +kernel
theorem dX7_odds_33 : decode cX7_odds 33 = .ok (.bipush 100, 2) := by decide +kernel
theorem dX7_odds_35 : decode cX7_odds 35 = .ok (.invokestatic 70, 3) := by decide +kernel
theorem dX7_odds_38 : decode cX7_odds 38 = .ok (.ifCond .ne 11, 3) := by decide +kernel
theorem dX7_odds_41 : decode cX7_odds 41 = .ok (.iload 5, 2) := by decide +kernel
theorem dX7_odds_43 : decode cX7_odds 43 = .ok (.invokestatic 178, 3) := by decide +kernel
theorem dX7_odds_46 : decode cX7_odds 46 = .ok (.ifCond .eq 6, 3) := by decide +kernel
theorem dX7_odds_49 : decode cX7_odds 49 = .ok (.ldc 74, 2) := by decide +kernel
theorem dX7_odds_51 : decode cX7_odds 51 = .ok (.ireturn, 1) := by decide +kernel
theorem dX7_odds_52 : decode cX7_odds 52 = .ok (.aload_n 0, 1) := by decide +kernel
theorem dX7_odds_53 : decode cX7_odds 53 = .ok (.getfield 62, 3) := by decide +kernel
theorem dX7_odds_56 : decode cX7_odds 56 = .ok (.aload_n 0, 1) := by decide +kernel
theorem dX7_odds_57 : decode cX7_odds 57 = .ok (.getfield 26, 3) := by decide +kernel
theorem dX7_odds_60 : decode cX7_odds 60 = .ok (.aload_n 0, 1) := by decide +kernel
theorem dX7_odds_61 : decode cX7_odds 61 = .ok (.getfield 19, 3) := by decide +kernel
theorem dX7_odds_64 : decode cX7_odds 64 = .ok (.iload_n 1, 1) := by decide +kernel
theorem dX7_odds_65 : decode cX7_odds 65 = .ok (.iload 5, 2) := by decide +kernel
theorem dX7_odds_67 : decode cX7_odds 67 = .ok (.invokevirtual 223, 3) := by decide +kernel
theorem dX7_odds_70 : decode cX7_odds 70 = .ok (.aload_n 0, 1) := by decide +kernel
theorem dX7_odds_71 : decode cX7_odds 71 = .ok (.getfield 62, 3) := by decide +kernel
theorem dX7_odds_74 : decode cX7_odds 74 = .ok (.iload_n 2, 1) := by decide +kernel
theorem dX7_odds_75 : decode cX7_odds 75 = .ok (.iload_n 3, 1) := by decide +kernel
theorem dX7_odds_76 : decode cX7_odds 76 = .ok (.iload 4, 2) := by decide +kernel
theorem dX7_odds_78 : decode cX7_odds 78 = .ok (.invokevirtual 244, 3) := by decide +kernel
theorem dX7_odds_81 : decode cX7_odds 81 = .ok (.ireturn, 1) := by decide +kernel
set_option maxRecDepth 20000 in
theorem ggX7_noFall_X7_isOut : GoodIn wsX7_noFall wsX7_isOut := goodIn_r _ [8] (by decide +kernel) (by decide +kernel)
set_option maxRecDepth 20000 in
theorem gX7_noFall_X7_isOut : GoodIn wsX7_noFall (va_wsS RX7 70 yX7_isOut wsX7_isOut) := goodIn_app (goodIn_of _ (by decide +kernel)) ggX7_noFall_X7_isOut
set_option maxRecDepth 20000 in
theorem ggX7_noFall_X0_horsesTold : GoodIn wsX7_noFall wsX0_horsesTold := goodIn_r _ [13, 14, 25] (by decide +kernel) (by decide +kernel)
set_option maxRecDepth 20000 in
theorem gX7_noFall_X0_horsesTold : GoodIn wsX7_noFall (wsV RX7 201 RX0 yX0_horsesTold wsX0_horsesTold) := goodIn_app (goodIn_of _ (by decide +kernel)) ggX7_noFall_X0_horsesTold
theorem dX7_noFall_0 : decode cX7_noFall 0 = .ok (.iload_n 1, 1) := by decide +kernel
theorem dX7_noFall_1 : decode cX7_noFall 1 = .ok (.iconst 0, 1) := by decide +kernel
theorem dX7_noFall_2 : decode cX7_noFall 2 = .ok (.bipush 99, 2) := by decide +kernel
theorem dX7_noFall_4 : decode cX7_noFall 4 = .ok (.invokestatic 70, 3) := by decide +kernel
theorem dX7_noFall_7 : decode cX7_noFall 7 = .ok (.ifCond .ne 14, 3) := by decide +kernel
theorem dX7_noFall_10 : decode cX7_noFall 10 = .ok (.iload_n 2, 1) := by decide +kernel
theorem dX7_noFall_11 : decode cX7_noFall 11 = .ok (.iconst 0, 1) := by decide +kernel
theorem dX7_noFall_12 : decode cX7_noFall 12 = .ok (.sipush 1000, 3) := by decide +kernel
theorem dX7_noFall_15 : decode cX7_noFall 15 = .ok (.invokestatic 70, 3) := by decide +kernel
theorem dX7_noFall_18 : decode cX7_noFall 18 = .ok (.ifCond .eq 6, 3) := by decide +kernel
theorem dX7_noFall_21 : decode cX7_noFall 21 = .ok (.ldc 74, 2) := by decide +kernel
theorem dX7_noFall_23 : decode cX7_noFall 23 = .ok (.ireturn, 1) := by decide +kernel
theorem dX7_noFall_24 : decode cX7_noFall 24 = .ok (.ldc2_w 247, 3) := by decide +kernel
theorem dX7_noFall_27 : decode cX7_noFall 27 = .ok (.lstore_n 3, 1) := by decide +kernel
theorem dX7_noFall_28 : decode cX7_noFall 28 = .ok (.iload_n 1, 1) := by decide +kernel
theorem dX7_noFall_29 : decode cX7_noFall 29 = .ok (.aload_n 0, 1) := by decide +kernel
theorem dX7_noFall_30 : decode cX7_noFall 30 = .ok (.getfield 19, 3) := by decide +kernel
theorem dX7_noFall_33 : decode cX7_noFall 33 = .ok (.invokevirtual 201, 3) := by decide +kernel
theorem dX7_noFall_36 : decode cX7_noFall 36 = .ok (.imul, 1) := by decide +kernel
theorem dX7_noFall_37 : decode cX7_noFall 37 = .ok (.istore 5, 2) := by decide +kernel
theorem dX7_noFall_39 : decode cX7_noFall 39 = .ok (.iconst 0, 1) := by decide +kernel
theorem dX7_noFall_40 : decode cX7_noFall 40 = .ok (.istore 6, 2) := by decide +kernel
theorem dX7_noFall_42 : decode cX7_noFall 42 = .ok (.iload 6, 2) := by decide +kernel
theorem dX7_noFall_44 : decode cX7_noFall 44 = .ok (.iload 5, 2) := by decide +kernel
theorem dX7_noFall_46 : decode cX7_noFall 46 = .ok (.if_icmp .ge 22, 3) := by decide +kernel
theorem dX7_noFall_49 : decode cX7_noFall 49 = .ok (.lload_n 3, 1) := by decide +kernel
theorem dX7_noFall_50 : decode cX7_noFall 50 = .ok (.sipush 1000, 3) := by decide +kernel
theorem dX7_noFall_53 : decode cX7_noFall 53 = .ok (.iload_n 2, 1) := by decide +kernel
theorem dX7_noFall_54 : decode cX7_noFall 54 = .ok (.isub, 1) := by decide +kernel
theorem dX7_noFall_55 : decode cX7_noFall 55 = .ok (.i2l, 1) := by decide +kernel
theorem dX7_noFall_56 : decode cX7_noFall 56 = .ok (.lmul, 1) := by decide +kernel
theorem dX7_noFall_57 : decode cX7_noFall 57 = .ok (.ldc2_w 249, 3) := by decide +kernel
theorem dX7_noFall_60 : decode cX7_noFall 60 = .ok (.ldiv, 1) := by decide +kernel
theorem dX7_noFall_61 : decode cX7_noFall 61 = .ok (.lstore_n 3, 1) := by decide +kernel
theorem dX7_noFall_62 : decode cX7_noFall 62 = .ok (.iinc 6 1, 3) := by decide +kernel
theorem dX7_noFall_65 : decode cX7_noFall 65 = .ok (.goto (-23), 3) := by decide +kernel
theorem dX7_noFall_68 : decode cX7_noFall 68 = .ok (.lload_n 3, 1) := by decide +kernel
theorem dX7_noFall_69 : decode cX7_noFall 69 = .ok (.l2i, 1) := by decide +kernel
theorem dX7_noFall_70 : decode cX7_noFall 70 = .ok (.ireturn, 1) := by decide +kernel
set_option maxRecDepth 20000 in
theorem ggX7_bore_X6_has : GoodIn wsX7_bore wsX6_has := goodIn_r _ [12, 13, 50, 51, 52, 53, 54] (by decide +kernel) (by decide +kernel)
set_option maxRecDepth 20000 in
theorem gX7_bore_X6_has : GoodIn wsX7_bore (wsV RX7 151 RX6 yX6_has wsX6_has) := goodIn_app (goodIn_of _ (by decide +kernel)) ggX7_bore_X6_has
set_option maxRecDepth 20000 in
theorem ggX7_bore_X7_isOut : GoodIn wsX7_bore wsX7_isOut := goodIn_r _ [17] (by decide +kernel) (by decide +kernel)
set_option maxRecDepth 20000 in
theorem gX7_bore_X7_isOut : GoodIn wsX7_bore (va_wsS RX7 70 yX7_isOut wsX7_isOut) := goodIn_app (goodIn_of _ (by decide +kernel)) ggX7_bore_X7_isOut
set_option maxRecDepth 20000 in
theorem ggX7_bore_X1_addBored : GoodIn wsX7_bore wsX1_addBored := goodIn_r _ [22, 23, 24, 25, 26, 27, 42, 43, 44, 45, 46, 47, 48, 49] (by decide +kernel) (by decide +kernel)
set_option maxRecDepth 20000 in
theorem gX7_bore_X1_addBored : GoodIn wsX7_bore (wsV RX7 251 RX1 yX1_addBored wsX1_addBored) := goodIn_app (goodIn_of _ (by decide +kernel)) ggX7_bore_X1_addBored
theorem dX7_bore_0 : decode cX7_bore 0 = .ok (.aload_n 0, 1) := by decide +kernel
theorem dX7_bore_1 : decode cX7_bore 1 = .ok (.getfield 26, 3) := by decide +kernel
theorem dX7_bore_4 : decode cX7_bore 4 = .ok (.getfield 118, 3) := by decide +kernel
theorem dX7_bore_7 : decode cX7_bore 7 = .ok (.iload_n 1, 1) := by decide +kernel
theorem dX7_bore_8 : decode cX7_bore 8 = .ok (.invokevirtual 151, 3) := by decide +kernel
theorem dX7_bore_11 : decode cX7_bore 11 = .ok (.ifCond .ne 6, 3) := by decide +kernel
theorem dX7_bore_14 : decode cX7_bore 14 = .ok (.ldc 155, 2) := by decide +kernel
theorem dX7_bore_16 : decode cX7_bore 16 = .ok (.ireturn, 1) := by decide +kernel
theorem dX7_bore_17 : decode cX7_bore 17 = .ok (.iload_n 2, 1) := by decide +kernel
theorem dX7_bore_18 : decode cX7_bore 18 = .ok (.iconst 0, 1) := by decide +kernel
theorem dX7_bore_19 : decode cX7_bore 19 = .ok (.bipush 9, 2) := by decide +kernel
theorem dX7_bore_21 : decode cX7_bore 21 = .ok (.invokestatic 70, 3) := by decide +kernel
theorem dX7_bore_24 : decode cX7_bore 24 = .ok (.ifCond .ne 25, 3) := by decide +kernel
theorem dX7_bore_27 : decode cX7_bore 27 = .ok (.iload_n 3, 1) := by decide +kernel
theorem dX7_bore_28 : decode cX7_bore 28 = .ok (.iconst 0, 1) := by decide +kernel
theorem dX7_bore_29 : decode cX7_bore 29 = .ok (.bipush 30, 2) := by decide +kernel
theorem dX7_bore_31 : decode cX7_bore 31 = .ok (.invokestatic 70, 3) := by decide +kernel
theorem dX7_bore_34 : decode cX7_bore 34 = .ok (.ifCond .ne 15, 3) := by decide +kernel
theorem dX7_bore_37 : decode cX7_bore 37 = .ok (.iload 4, 2) := by decide +kernel
theorem dX7_bore_39 : decode cX7_bore 39 = .ok (.iconst 0, 1) := by decide +kernel
theorem dX7_bore_40 : decode cX7_bore 40 = .ok (.sipush 300, 3) := by decide +kernel
theorem dX7_bore_43 : decode cX7_bore 43 = .ok (.invokestatic 70, 3) := by decide +kernel
theorem dX7_bore_46 : decode cX7_bore 46 = .ok (.ifCond .eq 6, 3) := by decide +kernel
theorem dX7_bore_49 : decode cX7_bore 49 = .ok (.ldc 74, 2) := by decide +kernel
theorem dX7_bore_51 : decode cX7_bore 51 = .ok (.ireturn, 1) := by decide +kernel
theorem dX7_bore_52 : decode cX7_bore 52 = .ok (.aload_n 0, 1) := by decide +kernel
theorem dX7_bore_53 : decode cX7_bore 53 = .ok (.getfield 41, 3) := by decide +kernel
theorem dX7_bore_56 : decode cX7_bore 56 = .ok (.iload_n 1, 1) := by decide +kernel
theorem dX7_bore_57 : decode cX7_bore 57 = .ok (.iload_n 2, 1) := by decide +kernel
theorem dX7_bore_58 : decode cX7_bore 58 = .ok (.iload_n 3, 1) := by decide +kernel
theorem dX7_bore_59 : decode cX7_bore 59 = .ok (.iload 4, 2) := by decide +kernel
theorem dX7_bore_61 : decode cX7_bore 61 = .ok (.invokevirtual 251, 3) := by decide +kernel
theorem dX7_bore_64 : decode cX7_bore 64 = .ok (.ifCond .eq 13, 3) := by decide +kernel
theorem dX7_bore_67 : decode cX7_bore 67 = .ok (.aload_n 0, 1) := by decide +kernel
theorem dX7_bore_68 : decode cX7_bore 68 = .ok (.getfield 41, 3) := by decide +kernel
theorem dX7_bore_71 : decode cX7_bore 71 = .ok (.getfield 145, 3) := by decide +kernel
theorem dX7_bore_74 : decode cX7_bore 74 = .ok (.goto 5, 3) := by decide +kernel
theorem dX7_bore_77 : decode cX7_bore 77 = .ok (.ldc 79, 2) := by decide +kernel
theorem dX7_bore_79 : decode cX7_bore 79 = .ok (.ireturn, 1) := by decide +kernel
set_option maxRecDepth 20000 in
theorem ggX7_kinds_X6_has : GoodIn wsX7_kinds wsX6_has := goodIn_r _ [9, 10, 59, 60, 61, 62, 63] (by decide +kernel) (by decide +kernel)
set_option maxRecDepth 20000 in
theorem gX7_kinds_X6_has : GoodIn wsX7_kinds (wsV RX7 151 RX6 yX6_has wsX6_has) := goodIn_app (goodIn_of _ (by decide +kernel)) ggX7_kinds_X6_has
set_option maxRecDepth 20000 in
theorem ggX7_kinds_X1_fits : GoodIn wsX7_kinds wsX1_fits := goodIn_r _ [15, 16, 17, 18, 19, 20, 21, 22, 23, 8, 24, 25, 26, 27, 28, 29, 30, 31, 32, 33, 34, 35, 36, 37, 38, 39, 40, 41, 42, 43, 44, 64, 65, 66, 67, 68, 69, 70, 71, 59, 60, 61, 62, 63] (by decide +kernel) (by decide +kernel)
set_option maxRecDepth 20000 in
theorem gX7_kinds_X1_fits : GoodIn wsX7_kinds (wsV RX7 255 RX1 yX1_fits wsX1_fits) := goodIn_app (goodIn_of _ (by decide +kernel)) ggX7_kinds_X1_fits
theorem dX7_kinds_0 : decode cX7_kinds 0 = .ok (.aload_n 0, 1) := by decide +kernel
theorem dX7_kinds_1 : decode cX7_kinds 1 = .ok (.getfield 26, 3) := by decide +kernel
theorem dX7_kinds_4 : decode cX7_kinds 4 = .ok (.getfield 118, 3) := by decide +kernel
theorem dX7_kinds_7 : decode cX7_kinds 7 = .ok (.iload_n 1, 1) := by decide +kernel
theorem dX7_kinds_8 : decode cX7_kinds 8 = .ok (.invokevirtual 151, 3) := by decide +kernel
theorem dX7_kinds_11 : decode cX7_kinds 11 = .ok (.ifCond .ne 6, 3) := by decide +kernel
theorem dX7_kinds_14 : decode cX7_kinds 14 = .ok (.ldc 155, 2) := by decide +kernel
theorem dX7_kinds_16 : decode cX7_kinds 16 = .ok (.ireturn, 1) := by decide +kernel
theorem dX7_kinds_17 : decode cX7_kinds 17 = .ok (.iconst 0, 1) := by decide +kernel
theorem dX7_kinds_18 : decode cX7_kinds 18 = .ok (.istore_n 2, 1) := by decide +kernel
theorem dX7_kinds_19 : decode cX7_kinds 19 = .ok (.iconst 0, 1) := by decide +kernel
theorem dX7_kinds_20 : decode cX7_kinds 20 = .ok (.istore_n 3, 1) := by decide +kernel
theorem dX7_kinds_21 : decode cX7_kinds 21 = .ok (.iload_n 3, 1) := by decide +kernel
theorem dX7_kinds_22 : decode cX7_kinds 22 = .ok (.iconst 3, 1) := by decide +kernel
theorem dX7_kinds_23 : decode cX7_kinds 23 = .ok (.if_icmp .gt 34, 3) := by decide +kernel
theorem dX7_kinds_26 : decode cX7_kinds 26 = .ok (.aload_n 0, 1) := by decide +kernel
theorem dX7_kinds_27 : decode cX7_kinds 27 = .ok (.getfield 41, 3) := by decide +kernel
theorem dX7_kinds_30 : decode cX7_kinds 30 = .ok (.aload_n 0, 1) := by decide +kernel
theorem dX7_kinds_31 : decode cX7_kinds 31 = .ok (.getfield 26, 3) := by decide +kernel
theorem dX7_kinds_34 : decode cX7_kinds 34 = .ok (.getfield 118, 3) := by decide +kernel
theorem dX7_kinds_37 : decode cX7_kinds 37 = .ok (.iload_n 1, 1) := by decide +kernel
theorem dX7_kinds_38 : decode cX7_kinds 38 = .ok (.iload_n 3, 1) := by decide +kernel
theorem dX7_kinds_39 : decode cX7_kinds 39 = .ok (.invokevirtual 255, 3) := by decide +kernel
theorem dX7_kinds_42 : decode cX7_kinds 42 = .ok (.ifCond .eq 9, 3) := by decide +kernel
theorem dX7_kinds_45 : decode cX7_kinds 45 = .ok (.iload_n 2, 1) := by decide +kernel
theorem dX7_kinds_46 : decode cX7_kinds 46 = .ok (.iconst 1, 1) := by decide +kernel
theorem dX7_kinds_47 : decode cX7_kinds 47 = .ok (.iload_n 3, 1) := by decide +kernel
theorem dX7_kinds_48 : decode cX7_kinds 48 = .ok (.ishl, 1) := by decide +kernel
theorem dX7_kinds_49 : decode cX7_kinds 49 = .ok (.ior, 1) := by decide +kernel
theorem dX7_kinds_50 : decode cX7_kinds 50 = .ok (.istore_n 2, 1) := by decide +kernel
theorem dX7_kinds_51 : decode cX7_kinds 51 = .ok (.iinc 3 1, 3) := by decide +kernel
theorem dX7_kinds_54 : decode cX7_kinds 54 = .ok (.goto (-33), 3) := by decide +kernel
theorem dX7_kinds_57 : decode cX7_kinds 57 = .ok (.iload_n 2, 1) := by decide +kernel
theorem dX7_kinds_58 : decode cX7_kinds 58 = .ok (.ireturn, 1) := by decide +kernel
set_option maxRecDepth 20000 in
theorem ggX7_write_X6_has : GoodIn wsX7_write wsX6_has := goodIn_r _ [12, 13, 48, 49, 50, 51, 52] (by decide +kernel) (by decide +kernel)
set_option maxRecDepth 20000 in
theorem gX7_write_X6_has : GoodIn wsX7_write (wsV RX7 151 RX6 yX6_has wsX6_has) := goodIn_app (goodIn_of _ (by decide +kernel)) ggX7_write_X6_has
set_option maxRecDepth 20000 in
theorem ggX7_write_X7_isOut : GoodIn wsX7_write wsX7_isOut := goodIn_r _ [17] (by decide +kernel) (by decide +kernel)
set_option maxRecDepth 20000 in
theorem gX7_write_X7_isOut : GoodIn wsX7_write (va_wsS RX7 70 yX7_isOut wsX7_isOut) := goodIn_app (goodIn_of _ (by decide +kernel)) ggX7_write_X7_isOut
set_option maxRecDepth 20000 in
theorem ggX7_write_X1_addEntry : GoodIn wsX7_write wsX1_addEntry := goodIn_r _ [22, 23, 24, 25, 40, 41, 42, 43, 44, 45, 46, 47] (by decide +kernel) (by decide +kernel)
set_option maxRecDepth 20000 in
theorem gX7_write_X1_addEntry : GoodIn wsX7_write (wsV RX7 259 RX1 yX1_addEntry wsX1_addEntry) := goodIn_app (goodIn_of _ (by decide +kernel)) ggX7_write_X1_addEntry
theorem dX7_write_0 : decode cX7_write 0 = .ok (.aload_n 0, 1) := by decide +kernel
theorem dX7_write_1 : decode cX7_write 1 = .ok (.getfield 26, 3) := by decide +kernel
theorem dX7_write_4 : decode cX7_write 4 = .ok (.getfield 118, 3) := by decide +kernel
theorem dX7_write_7 : decode cX7_write 7 = .ok (.iload_n 1, 1) := by decide +kernel
theorem dX7_write_8 : decode cX7_write 8 = .ok (.invokevirtual 151, 3) := by decide +kernel
theorem dX7_write_11 : decode cX7_write 11 = .ok (.ifCond .ne 6, 3) := by decide +kernel
theorem dX7_write_14 : decode cX7_write 14 = .ok (.ldc 155, 2) := by decide +kernel
theorem dX7_write_16 : decode cX7_write 16 = .ok (.ireturn, 1) := by decide +kernel
theorem dX7_write_17 : decode cX7_write 17 = .ok (.iload_n 2, 1) := by decide +kernel
theorem dX7_write_18 : decode cX7_write 18 = .ok (.iconst 0, 1) := by decide +kernel
theorem dX7_write_19 : decode cX7_write 19 = .ok (.sipush 300, 3) := by decide +kernel
theorem dX7_write_22 : decode cX7_write 22 = .ok (.invokestatic 70, 3) := by decide +kernel
theorem dX7_write_25 : decode cX7_write 25 = .ok (.ifCond .eq 6, 3) := by decide +kernel
theorem dX7_write_28 : decode cX7_write 28 = .ok (.ldc 74, 2) := by decide +kernel
theorem dX7_write_30 : decode cX7_write 30 = .ok (.ireturn, 1) := by decide +kernel
theorem dX7_write_31 : decode cX7_write 31 = .ok (.aload_n 0, 1) := by decide +kernel
theorem dX7_write_32 : decode cX7_write 32 = .ok (.getfield 41, 3) := by decide +kernel
theorem dX7_write_35 : decode cX7_write 35 = .ok (.iload_n 1, 1) := by decide +kernel
theorem dX7_write_36 : decode cX7_write 36 = .ok (.iload_n 2, 1) := by decide +kernel
theorem dX7_write_37 : decode cX7_write 37 = .ok (.invokevirtual 259, 3) := by decide +kernel
theorem dX7_write_40 : decode cX7_write 40 = .ok (.ifCond .eq 13, 3) := by decide +kernel
theorem dX7_write_43 : decode cX7_write 43 = .ok (.aload_n 0, 1) := by decide +kernel
theorem dX7_write_44 : decode cX7_write 44 = .ok (.getfield 41, 3) := by decide +kernel
theorem dX7_write_47 : decode cX7_write 47 = .ok (.getfield 148, 3) := by decide +kernel
theorem dX7_write_50 : decode cX7_write 50 = .ok (.goto 5, 3) := by decide +kernel
theorem dX7_write_53 : decode cX7_write 53 = .ok (.ldc 79, 2) := by decide +kernel
theorem dX7_write_55 : decode cX7_write 55 = .ok (.ireturn, 1) := by decide +kernel
set_option maxRecDepth 20000 in
theorem ggX7_tear_X1_clearAll : GoodIn wsX7_tear wsX1_clearAll := goodIn_r _ [8, 9, 10, 21, 22, 23, 24, 25, 26, 27, 28] (by decide +kernel) (by decide +kernel)
set_option maxRecDepth 20000 in
theorem gX7_tear_X1_clearAll : GoodIn wsX7_tear (wsV RX7 115 RX1 yX1_clearAll wsX1_clearAll) := goodIn_app (goodIn_of _ (by decide +kernel)) ggX7_tear_X1_clearAll
theorem dX7_tear_0 : decode cX7_tear 0 = .ok (.aload_n 0, 1) := by decide +kernel
theorem dX7_tear_1 : decode cX7_tear 1 = .ok (.getfield 41, 3) := by decide +kernel
theorem dX7_tear_4 : decode cX7_tear 4 = .ok (.getfield 145, 3) := by decide +kernel
theorem dX7_tear_7 : decode cX7_tear 7 = .ok (.aload_n 0, 1) := by decide +kernel
theorem dX7_tear_8 : decode cX7_tear 8 = .ok (.getfield 41, 3) := by decide +kernel
theorem dX7_tear_11 : decode cX7_tear 11 = .ok (.getfield 148, 3) := by decide +kernel
theorem dX7_tear_14 : decode cX7_tear 14 = .ok (.iadd, 1) := by decide +kernel
theorem dX7_tear_15 : decode cX7_tear 15 = .ok (.istore_n 1, 1) := by decide +kernel
theorem dX7_tear_16 : decode cX7_tear 16 = .ok (.aload_n 0, 1) := by decide +kernel
theorem dX7_tear_17 : decode cX7_tear 17 = .ok (.getfield 41, 3) := by decide +kernel
theorem dX7_tear_20 : decode cX7_tear 20 = .ok (.invokevirtual 115, 3) := by decide +kernel
theorem dX7_tear_23 : decode cX7_tear 23 = .ok (.iload_n 1, 1) := by decide +kernel
theorem dX7_tear_24 : decode cX7_tear 24 = .ok (.ireturn, 1) := by decide +kernel
set_option maxRecDepth 20000 in
theorem ggX7_judge_X1_firstWrong : GoodIn wsX7_judge wsX1_firstWrong := goodIn_r _ [8, 9, 10, 11, 12, 13, 14, 15, 16, 17, 18, 33, 34, 35, 36, 37, 38, 39, 40, 41, 42, 43, 44, 45] (by decide +kernel) (by decide +kernel)
set_option maxRecDepth 20000 in
theorem gX7_judge_X1_firstWrong : GoodIn wsX7_judge (wsV RX7 263 RX1 yX1_firstWrong wsX1_firstWrong) := goodIn_app (goodIn_of _ (by decide +kernel)) ggX7_judge_X1_firstWrong
theorem dX7_judge_0 : decode cX7_judge 0 = .ok (.aload_n 0, 1) := by decide +kernel
theorem dX7_judge_1 : decode cX7_judge 1 = .ok (.getfield 41, 3) := by decide +kernel
theorem dX7_judge_4 : decode cX7_judge 4 = .ok (.aload_n 0, 1) := by decide +kernel
theorem dX7_judge_5 : decode cX7_judge 5 = .ok (.getfield 26, 3) := by decide +kernel
theorem dX7_judge_8 : decode cX7_judge 8 = .ok (.getfield 118, 3) := by decide +kernel
theorem dX7_judge_11 : decode cX7_judge 11 = .ok (.invokevirtual 263, 3) := by decide +kernel
theorem dX7_judge_14 : decode cX7_judge 14 = .ok (.ireturn, 1) := by decide +kernel
theorem dX7_seed_0 : decode cX7_seed 0 = .ok (.iload_n 1, 1) := by decide +kernel
theorem dX7_seed_1 : decode cX7_seed 1 = .ok (.ifCond .ge 6, 3) := by decide +kernel
theorem dX7_seed_4 : decode cX7_seed 4 = .ok (.ldc 74, 2) := by decide +kernel
theorem dX7_seed_6 : decode cX7_seed 6 = .ok (.ireturn, 1) := by decide +kernel
theorem dX7_seed_7 : decode cX7_seed 7 = .ok (.aload_n 0, 1) := by decide +kernel
theorem dX7_seed_8 : decode cX7_seed 8 = .ok (.getfield 26, 3) := by decide +kernel
theorem dX7_seed_11 : decode cX7_seed 11 = .ok (.getfield 267, 3) := by decide +kernel
theorem dX7_seed_14 : decode cX7_seed 14 = .ok (.istore_n 2, 1) := by decide +kernel
theorem dX7_seed_15 : decode cX7_seed 15 = .ok (.aload_n 0, 1) := by decide +kernel
theorem dX7_seed_16 : decode cX7_seed 16 = .ok (.getfield 26, 3) := by decide +kernel
theorem dX7_seed_19 : decode cX7_seed 19 = .ok (.iload_n 1, 1) := by decide +kernel
theorem dX7_seed_20 : decode cX7_seed 20 = .ok (.putfield 267, 3) := by decide +kernel
theorem dX7_seed_23 : decode cX7_seed 23 = .ok (.iload_n 2, 1) := by decide +kernel
theorem dX7_seed_24 : decode cX7_seed 24 = .ok (.ireturn, 1) := by decide +kernel
set_option maxRecDepth 20000 in
theorem ggX7_keep_X7_isOut : GoodIn wsX7_keep wsX7_isOut := goodIn_r _ [8] (by decide +kernel) (by decide +kernel)
set_option maxRecDepth 20000 in
theorem gX7_keep_X7_isOut : GoodIn wsX7_keep (va_wsS RX7 70 yX7_isOut wsX7_isOut) := goodIn_app (goodIn_of _ (by decide +kernel)) ggX7_keep_X7_isOut
set_option maxRecDepth 20000 in
theorem ggX7_keep_X5_copyFrom : GoodIn wsX7_keep wsX5_copyFrom := goodIn_r _ [13, 14, 15, 16, 17, 18, 19, 20, 21, 22, 23, 24, 25, 26, 27, 38, 39, 40, 41, 42, 43, 44, 45, 46] (by decide +kernel) (by decide +kernel)
set_option maxRecDepth 20000 in
theorem gX7_keep_X5_copyFrom : GoodIn wsX7_keep (wsV RX7 270 RX5 yX5_copyFrom wsX5_copyFrom) := goodIn_app (goodIn_of _ (by decide +kernel)) ggX7_keep_X5_copyFrom
theorem dX7_keep_0 : decode cX7_keep 0 = .ok (.iload_n 1, 1) := by decide +kernel
theorem dX7_keep_1 : decode cX7_keep 1 = .ok (.iconst 0, 1) := by decide +kernel
theorem dX7_keep_2 : decode cX7_keep 2 = .ok (.iconst 1, 1) := by decide +kernel
theorem dX7_keep_3 : decode cX7_keep 3 = .ok (.invokestatic 70, 3) := by decide +kernel
theorem dX7_keep_6 : decode cX7_keep 6 = .ok (.ifCond .eq 6, 3) := by decide +kernel
theorem dX7_keep_9 : decode cX7_keep 9 = .ok (.ldc 155, 2) := by decide +kernel
theorem dX7_keep_11 : decode cX7_keep 11 = .ok (.ireturn, 1) := by decide +kernel
theorem dX7_keep_12 : decode cX7_keep 12 = .ok (.aload_n 0, 1) := by decide +kernel
theorem dX7_keep_13 : decode cX7_keep 13 = .ok (.getfield 30, 3) := by decide +kernel
theorem dX7_keep_16 : decode cX7_keep 16 = .ok (.iload_n 1, 1) := by decide +kernel
theorem dX7_keep_17 : decode cX7_keep 17 = .ok (.aaload, 1) := by decide +kernel
theorem dX7_keep_18 : decode cX7_keep 18 = .ok (.aload_n 0, 1) := by decide +kernel
theorem dX7_keep_19 : decode cX7_keep 19 = .ok (.getfield 26, 3) := by decide +kernel
theorem dX7_keep_22 : decode cX7_keep 22 = .ok (.invokevirtual 270, 3) := by decide +kernel
theorem dX7_keep_25 : decode cX7_keep 25 = .ok (.aload_n 0, 1) := by decide +kernel
theorem dX7_keep_26 : decode cX7_keep 26 = .ok (.getfield 34, 3) := by decide +kernel
theorem dX7_keep_29 : decode cX7_keep 29 = .ok (.iload_n 1, 1) := by decide +kernel
theorem dX7_keep_30 : decode cX7_keep 30 = .ok (.iconst 1, 1) := by decide +kernel
theorem dX7_keep_31 : decode cX7_keep 31 = .ok (.bastore, 1) := by decide +kernel
theorem dX7_keep_32 : decode cX7_keep 32 = .ok (.iconst 1, 1) := by decide +kernel
theorem dX7_keep_33 : decode cX7_keep 33 = .ok (.ireturn, 1) := by decide +kernel
set_option maxRecDepth 20000 in
theorem ggX7_goBack_X7_isOut : GoodIn wsX7_goBack wsX7_isOut := goodIn_r _ [9] (by decide +kernel) (by decide +kernel)
set_option maxRecDepth 20000 in
theorem gX7_goBack_X7_isOut : GoodIn wsX7_goBack (va_wsS RX7 70 yX7_isOut wsX7_isOut) := goodIn_app (goodIn_of _ (by decide +kernel)) ggX7_goBack_X7_isOut
set_option maxRecDepth 20000 in
theorem ggX7_goBack_X5_copyFrom : GoodIn wsX7_goBack wsX5_copyFrom := goodIn_r _ [14, 15, 16, 17, 18, 19, 20, 21, 22, 23, 24, 25, 26, 27, 28, 39, 40, 41, 42, 43, 44, 45, 46, 47] (by decide +kernel) (by decide +kernel)
set_option maxRecDepth 20000 in
theorem gX7_goBack_X5_copyFrom : GoodIn wsX7_goBack (wsV RX7 270 RX5 yX5_copyFrom wsX5_copyFrom) := goodIn_app (goodIn_of _ (by decide +kernel)) ggX7_goBack_X5_copyFrom
theorem dX7_goBack_0 : decode cX7_goBack 0 = .ok (.iload_n 1, 1) := by decide +kernel
theorem dX7_goBack_1 : decode cX7_goBack 1 = .ok (.iconst 0, 1) := by decide +kernel
theorem dX7_goBack_2 : decode cX7_goBack 2 = .ok (.iconst 1, 1) := by decide +kernel
theorem dX7_goBack_3 : decode cX7_goBack 3 = .ok (.invokestatic 70, 3) := by decide +kernel
theorem dX7_goBack_6 : decode cX7_goBack 6 = .ok (.ifCond .eq 6, 3) := by decide +kernel
theorem dX7_goBack_9 : decode cX7_goBack 9 = .ok (.ldc 155, 2) := by decide +kernel
theorem dX7_goBack_11 : decode cX7_goBack 11 = .ok (.ireturn, 1) := by decide +kernel
theorem dX7_goBack_12 : decode cX7_goBack 12 = .ok (.aload_n 0, 1) := by decide +kernel
theorem dX7_goBack_13 : decode cX7_goBack 13 = .ok (.getfield 34, 3) := by decide +kernel
theorem dX7_goBack_16 : decode cX7_goBack 16 = .ok (.iload_n 1, 1) := by decide +kernel
theorem dX7_goBack_17 : decode cX7_goBack 17 = .ok (.baload, 1) := by decide +kernel
theorem dX7_goBack_18 : decode cX7_goBack 18 = .ok (.ifCond .ne 6, 3) := by decide +kernel
theorem dX7_goBack_21 : decode cX7_goBack 21 = .ok (.ldc 181, 2) := by decide +kernel
theorem dX7_goBack_23 : decode cX7_goBack 23 = .ok (.ireturn, 1) := by decide +kernel
theorem dX7_goBack_24 : decode cX7_goBack 24 = .ok (.aload_n 0, 1) := by decide +kernel
theorem dX7_goBack_25 : decode cX7_goBack 25 = .ok (.getfield 26, 3) := by decide +kernel
theorem dX7_goBack_28 : decode cX7_goBack 28 = .ok (.aload_n 0, 1) := by decide +kernel
theorem dX7_goBack_29 : decode cX7_goBack 29 = .ok (.getfield 30, 3) := by decide +kernel
theorem dX7_goBack_32 : decode cX7_goBack 32 = .ok (.iload_n 1, 1) := by decide +kernel
theorem dX7_goBack_33 : decode cX7_goBack 33 = .ok (.aaload, 1) := by decide +kernel
theorem dX7_goBack_34 : decode cX7_goBack 34 = .ok (.invokevirtual 270, 3) := by decide +kernel
theorem dX7_goBack_37 : decode cX7_goBack 37 = .ok (.iconst 1, 1) := by decide +kernel
theorem dX7_goBack_38 : decode cX7_goBack 38 = .ok (.ireturn, 1) := by decide +kernel
theorem dX7_isOut_0 : decode cX7_isOut 0 = .ok (.iload_n 0, 1) := by decide +kernel
theorem dX7_isOut_1 : decode cX7_isOut 1 = .ok (.iload_n 1, 1) := by decide +kernel
theorem dX7_isOut_2 : decode cX7_isOut 2 = .ok (.if_icmp .lt 8, 3) := by decide +kernel
theorem dX7_isOut_5 : decode cX7_isOut 5 = .ok (.iload_n 0, 1) := by decide +kernel
theorem dX7_isOut_6 : decode cX7_isOut 6 = .ok (.iload_n 2, 1) := by decide +kernel
theorem dX7_isOut_7 : decode cX7_isOut 7 = .ok (.if_icmp .le 7, 3) := by decide +kernel
theorem dX7_isOut_10 : decode cX7_isOut 10 = .ok (.iconst 1, 1) := by decide +kernel
theorem dX7_isOut_11 : decode cX7_isOut 11 = .ok (.goto 4, 3) := by decide +kernel
theorem dX7_isOut_14 : decode cX7_isOut 14 = .ok (.iconst 0, 1) := by decide +kernel
theorem dX7_isOut_15 : decode cX7_isOut 15 = .ok (.ireturn, 1) := by decide +kernel
set_option maxRecDepth 20000 in
theorem ggX7_isOutOfDay_X7_isOut : GoodIn wsX7_isOutOfDay wsX7_isOut := goodIn_r _ [4] (by decide +kernel) (by decide +kernel)
set_option maxRecDepth 20000 in
theorem gX7_isOutOfDay_X7_isOut : GoodIn wsX7_isOutOfDay (va_wsS RX7 70 yX7_isOut wsX7_isOut) := goodIn_app (goodIn_of _ (by decide +kernel)) ggX7_isOutOfDay_X7_isOut
theorem dX7_isOutOfDay_0 : decode cX7_isOutOfDay 0 = .ok (.iload_n 0, 1) := by decide +kernel
theorem dX7_isOutOfDay_1 : decode cX7_isOutOfDay 1 = .ok (.iconst 1, 1) := by decide +kernel
theorem dX7_isOutOfDay_2 : decode cX7_isOutOfDay 2 = .ok (.sipush 999, 3) := by decide +kernel
theorem dX7_isOutOfDay_5 : decode cX7_isOutOfDay 5 = .ok (.invokestatic 70, 3) := by decide +kernel
theorem dX7_isOutOfDay_8 : decode cX7_isOutOfDay 8 = .ok (.ireturn, 1) := by decide +kernel
set_option maxRecDepth 20000 in
theorem ggX7_forceNow_X0_forceBy : GoodIn wsX7_forceNow wsX0_forceBy := goodIn_r _ [8, 9, 10, 11, 7, 12, 13, 14, 15, 16, 17, 18, 19, 20, 21, 22, 23, 24, 25, 26, 27, 28, 29, 30, 31, 46] (by decide +kernel) (by decide +kernel)
set_option maxRecDepth 20000 in
theorem gX7_forceNow_X0_forceBy : GoodIn wsX7_forceNow (wsV RX7 197 RX0 yX0_forceBy wsX0_forceBy) := goodIn_app (goodIn_of _ (by decide +kernel)) ggX7_forceNow_X0_forceBy
theorem dX7_forceNow_0 : decode cX7_forceNow 0 = .ok (.aload_n 0, 1) := by decide +kernel
theorem dX7_forceNow_1 : decode cX7_forceNow 1 = .ok (.getfield 19, 3) := by decide +kernel
theorem dX7_forceNow_4 : decode cX7_forceNow 4 = .ok (.aload_n 0, 1) := by decide +kernel
theorem dX7_forceNow_5 : decode cX7_forceNow 5 = .ok (.getfield 26, 3) := by decide +kernel
theorem dX7_forceNow_8 : decode cX7_forceNow 8 = .ok (.getfield 128, 3) := by decide +kernel
theorem dX7_forceNow_11 : decode cX7_forceNow 11 = .ok (.invokevirtual 197, 3) := by decide +kernel
theorem dX7_forceNow_14 : decode cX7_forceNow 14 = .ok (.ireturn, 1) := by decide +kernel
set_option maxRecDepth 20000 in
theorem ggX7_goFromNow_X7_forceNow : GoodIn wsX7_goFromNow wsX7_forceNow := goodIn_r _ [9, 4, 2, 10, 11, 12, 13, 14, 15, 16, 17, 18, 19, 20, 21, 22, 23, 24, 25, 26, 27, 28, 29, 30, 31, 32, 33, 34, 35, 36, 37, 38, 58, 59, 60, 61, 62, 63, 64, 65, 66, 67, 68, 69, 70, 71, 72] (by decide +kernel) (by decide +kernel)
set_option maxRecDepth 20000 in
theorem gX7_goFromNow_X7_forceNow : GoodIn wsX7_goFromNow (wsV RX7 139 RX7 yX7_forceNow wsX7_forceNow) := goodIn_app (goodIn_of _ (by decide +kernel)) ggX7_goFromNow_X7_forceNow
set_option maxRecDepth 20000 in
theorem ggX7_goFromNow_X0_axeMinutes : GoodIn wsX7_goFromNow wsX0_axeMinutes := goodIn_r _ [42, 20, 72] (by decide +kernel) (by decide +kernel)
set_option maxRecDepth 20000 in
theorem gX7_goFromNow_X0_axeMinutes : GoodIn wsX7_goFromNow (wsV RX7 207 RX0 yX0_axeMinutes wsX0_axeMinutes) := goodIn_app (goodIn_of _ (by decide +kernel)) ggX7_goFromNow_X0_axeMinutes
set_option maxRecDepth 20000 in
theorem ggX7_goFromNow_X4_go : GoodIn wsX7_goFromNow wsX4_go := goodIn_r _ [47, 48, 49, 50, 51, 52, 53, 54, 55, 56, 46, 57, 73, 74, 75, 76, 77, 78, 79, 80, 81] (by decide +kernel) (by decide +kernel)
set_option maxRecDepth 20000 in
theorem gX7_goFromNow_X4_go : GoodIn wsX7_goFromNow (wsV RX7 273 RX4 yX4_go wsX4_go) := goodIn_app (goodIn_of _ (by decide +kernel)) ggX7_goFromNow_X4_go
theorem dX7_goFromNow_0 : decode cX7_goFromNow 0 = .ok (.aload_n 0, 1) := by decide +kernel
theorem dX7_goFromNow_1 : decode cX7_goFromNow 1 = .ok (.getfield 48, 3) := by decide +kernel
theorem dX7_goFromNow_4 : decode cX7_goFromNow 4 = .ok (.aload_n 0, 1) := by decide +kernel
theorem dX7_goFromNow_5 : decode cX7_goFromNow 5 = .ok (.getfield 26, 3) := by decide +kernel
theorem dX7_goFromNow_8 : decode cX7_goFromNow 8 = .ok (.getfield 118, 3) := by decide +kernel
theorem dX7_goFromNow_11 : decode cX7_goFromNow 11 = .ok (.aload_n 0, 1) := by decide +kernel
theorem dX7_goFromNow_12 : decode cX7_goFromNow 12 = .ok (.invokevirtual 139, 3) := by decide +kernel
theorem dX7_goFromNow_15 : decode cX7_goFromNow 15 = .ok (.aload_n 0, 1) := by decide +kernel
theorem dX7_goFromNow_16 : decode cX7_goFromNow 16 = .ok (.getfield 19, 3) := by decide +kernel
theorem dX7_goFromNow_19 : decode cX7_goFromNow 19 = .ok (.invokevirtual 207, 3) := by decide +kernel
theorem dX7_goFromNow_22 : decode cX7_goFromNow 22 = .ok (.iload_n 1, 1) := by decide +kernel
theorem dX7_goFromNow_23 : decode cX7_goFromNow 23 = .ok (.invokevirtual 273, 3) := by decide +kernel
theorem dX7_goFromNow_26 : decode cX7_goFromNow 26 = .ok (.return_, 1) := by decide +kernel
set_option maxRecDepth 20000 in
theorem ggX8_init_X8_reads : GoodIn wsX8_init wsX8_reads := goodIn_r _ [25, 6, 26, 27, 28, 29, 10, 30, 31, 32, 33, 34, 35, 36, 37, 38, 39, 40, 41, 42, 43, 44, 45, 46, 47, 48, 49, 50, 51, 52, 53, 54, 55, 56, 57] (by decide +kernel) (by decide +kernel)
set_option maxRecDepth 20000 in
theorem gX8_init_X8_reads : GoodIn wsX8_init (wsV RX8 57 RX8 yX8_reads wsX8_reads) := goodIn_app (goodIn_of _ (by decide +kernel)) ggX8_init_X8_reads
