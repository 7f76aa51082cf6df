theorem dX8_init_0 : decode cX8_init 0 = .ok (.aload_n 0, 1) := by decide +kernel
theorem dX8_init_1 : decode cX8_init 1 = .ok (.invokespecial 1, 3) := by decide +kernel
theorem dX8_init_4 : decode cX8_init 4 = .ok (.aload_n 0, 1) := by decide +kernel
theorem dX8_init_5 : decode cX8_init 5 = .ok (.sipush 204, 3) := by decide +kernel
theorem dX8_init_8 : decode cX8_init 8 = .ok (.newarray .int, 2) := by decide +kernel
theorem dX8_init_10 : decode cX8_init 10 = .ok (.putfield 7, 3) := by decide +kernel
theorem dX8_init_13 : decode cX8_init 13 = .ok (.aload_n 0, 1) := by decide +kernel
theorem dX8_init_14 : decode cX8_init 14 = .ok (.bipush 18, 2) := by decide +kernel
theorem dX8_init_16 : decode cX8_init 16 = .ok (.newarray .int, 2) := by decide +kernel
theorem dX8_init_18 : decode cX8_init 18 = .ok (.putfield 13, 3) := by decide +kernel
theorem dX8_init_21 : decode cX8_init 21 = .ok (.aload_n 0, 1) := by decide +kernel
theorem dX8_init_22 : decode cX8_init 22 = .ok (.iconst 2, 1) := by decide +kernel
theorem dX8_init_23 : decode cX8_init 23 = .ok (.newarray .boolean, 2) := by decide +kernel
theorem dX8_init_25 : decode cX8_init 25 = .ok (.putfield 16, 3) := by decide +kernel
theorem dX8_init_28 : decode cX8_init 28 = .ok (.aload_n 0, 1) := by decide +kernel
theorem dX8_init_29 : decode cX8_init 29 = .ok (.sipush 230, 3) := by decide +kernel
theorem dX8_init_32 : decode cX8_init 32 = .ok (.newarray .int, 2) := by decide +kernel
theorem dX8_init_34 : decode cX8_init 34 = .ok (.putfield 20, 3) := by decide +kernel
theorem dX8_init_37 : decode cX8_init 37 = .ok (.aload_n 0, 1) := by decide +kernel
theorem dX8_init_38 : decode cX8_init 38 = .ok (.iconst (-1), 1) := by decide +kernel
theorem dX8_init_39 : decode cX8_init 39 = .ok (.putfield 23, 3) := by decide +kernel
theorem dX8_init_42 : decode cX8_init 42 = .ok (.aload_n 0, 1) := by decide +kernel
theorem dX8_init_43 : decode cX8_init 43 = .ok (.bipush 12, 2) := by decide +kernel
theorem dX8_init_45 : decode cX8_init 45 = .ok (.newarray .int, 2) := by decide +kernel
theorem dX8_init_47 : decode cX8_init 47 = .ok (.putfield 27, 3) := by decide +kernel
theorem dX8_init_50 : decode cX8_init 50 = .ok (.aload_n 0, 1) := by decide +kernel
theorem dX8_init_51 : decode cX8_init 51 = .ok (.bipush 12, 2) := by decide +kernel
theorem dX8_init_53 : decode cX8_init 53 = .ok (.newarray .int, 2) := by decide +kernel
theorem dX8_init_55 : decode cX8_init 55 = .ok (.putfield 30, 3) := by decide +kernel
theorem dX8_init_58 : decode cX8_init 58 = .ok (.aload_n 0, 1) := by decide +kernel
theorem dX8_init_59 : decode cX8_init 59 = .ok (.bipush 12, 2) := by decide +kernel
theorem dX8_init_61 : decode cX8_init 61 = .ok (.newarray .int, 2) := by decide +kernel
theorem dX8_init_63 : decode cX8_init 63 = .ok (.putfield 33, 3) := by decide +kernel
theorem dX8_init_66 : decode cX8_init 66 = .ok (.aload_n 0, 1) := by decide +kernel
theorem dX8_init_67 : decode cX8_init 67 = .ok (.bipush 51, 2) := by decide +kernel
theorem dX8_init_69 : decode cX8_init 69 = .ok (.newarray .int, 2) := by decide +kernel
theorem dX8_init_71 : decode cX8_init 71 = .ok (.putfield 36, 3) := by decide +kernel
theorem dX8_init_74 : decode cX8_init 74 = .ok (.aload_n 0, 1) := by decide +kernel
theorem dX8_init_75 : decode cX8_init 75 = .ok (.bipush 10, 2) := by decide +kernel
theorem dX8_init_77 : decode cX8_init 77 = .ok (.newarray .int, 2) := by decide +kernel
theorem dX8_init_79 : decode cX8_init 79 = .ok (.putfield 39, 3) := by decide +kernel
theorem dX8_init_82 : decode cX8_init 82 = .ok (.aload_n 0, 1) := by decide +kernel
theorem dX8_init_83 : decode cX8_init 83 = .ok (.bipush 10, 2) := by decide +kernel
theorem dX8_init_85 : decode cX8_init 85 = .ok (.newarray .int, 2) := by decide +kernel
theorem dX8_init_87 : decode cX8_init 87 = .ok (.putfield 42, 3) := by decide +kernel
theorem dX8_init_90 : decode cX8_init 90 = .ok (.aload_n 0, 1) := by decide +kernel
theorem dX8_init_91 : decode cX8_init 91 = .ok (.bipush 10, 2) := by decide +kernel
theorem dX8_init_93 : decode cX8_init 93 = .ok (.newarray .int, 2) := by decide +kernel
theorem dX8_init_95 : decode cX8_init 95 = .ok (.putfield 45, 3) := by decide +kernel
theorem dX8_init_98 : decode cX8_init 98 = .ok (.aload_n 0, 1) := by decide +kernel
theorem dX8_init_99 : decode cX8_init 99 = .ok (.bipush 10, 2) := by decide +kernel
theorem dX8_init_101 : decode cX8_init 101 = .ok (.newarray .int, 2) := by decide +kernel
theorem dX8_init_103 : decode cX8_init 103 = .ok (.putfield 48, 3) := by decide +kernel
theorem dX8_init_106 : decode cX8_init 106 = .ok (.aload_n 0, 1) := by decide +kernel
theorem dX8_init_107 : decode cX8_init 107 = .ok (.bipush 15, 2) := by decide +kernel
theorem dX8_init_109 : decode cX8_init 109 = .ok (.newarray .int, 2) := by decide +kernel
theorem dX8_init_111 : decode cX8_init 111 = .ok (.putfield 51, 3) := by decide +kernel
theorem dX8_init_114 : decode cX8_init 114 = .ok (.aload_n 0, 1) := by decide +kernel
theorem dX8_init_115 : decode cX8_init 115 = .ok (.bipush 15, 2) := by decide +kernel
theorem dX8_init_117 : decode cX8_init 117 = .ok (.newarray .int, 2) := by decide +kernel
theorem dX8_init_119 : decode cX8_init 119 = .ok (.putfield 54, 3) := by decide +kernel
theorem dX8_init_122 : decode cX8_init 122 = .ok (.aload_n 0, 1) := by decide +kernel
theorem dX8_init_123 : decode cX8_init 123 = .ok (.invokevirtual 57, 3) := by decide +kernel
theorem dX8_init_126 : decode cX8_init 126 = .ok (.iconst 0, 1) := by decide +kernel
theorem dX8_init_127 : decode cX8_init 127 = .ok (.istore_n 1, 1) := by decide +kernel
theorem dX8_init_128 : decode cX8_init 128 = .ok (.iload_n 1, 1) := by decide +kernel
theorem dX8_init_129 : decode cX8_init 129 = .ok (.bipush 9, 2) := by decide +kernel
theorem dX8_init_131 : decode cX8_init 131 = .ok (.if_icmp .ge 24, 3) := by decide +kernel
theorem dX8_init_134 : decode cX8_init 134 = .ok (.aload_n 0, 1) := by decide +kernel
theorem dX8_init_135 : decode cX8_init 135 = .ok (.getfield 13, 3) := by decide +kernel
theorem dX8_init_138 : decode cX8_init 138 = .ok (.iload_n 1, 1) := by decide +kernel
theorem dX8_init_139 : decode cX8_init 139 = .ok (.aload_n 0, 1) := by decide +kernel
theorem dX8_init_140 : decode cX8_init 140 = .ok (.getfield 13, 3) := by decide +kernel
theorem dX8_init_143 : decode cX8_init 143 = .ok (.bipush 9, 2) := by decide +kernel
theorem dX8_init_145 : decode cX8_init 145 = .ok (.iload_n 1, 1) := by decide +kernel
theorem dX8_init_146 : decode cX8_init 146 = .ok (.iadd, 1) := by decide +kernel
theorem dX8_init_147 : decode cX8_init 147 = .ok (.iaload, 1) := by decide +kernel
theorem dX8_init_148 : decode cX8_init 148 = .ok (.iastore, 1) := by decide +kernel
theorem dX8_init_149 : decode cX8_init 149 = .ok (.iinc 1 1, 3) := by decide +kernel
theorem dX8_init_152 : decode cX8_init 152 = .ok (.goto (-24), 3) := by decide +kernel
theorem dX8_init_155 : decode cX8_init 155 = .ok (.aload_n 0, 1) := by decide +kernel
theorem dX8_init_156 : decode cX8_init 156 = .ok (.getfield 7, 3) := by decide +kernel
theorem dX8_init_159 : decode cX8_init 159 = .ok (.bipush 48, 2) := by decide +kernel
theorem dX8_init_161 : decode cX8_init 161 = .ok (.iconst 4, 1) := by decide +kernel
theorem dX8_init_162 : decode cX8_init 162 = .ok (.iastore, 1) := by decide +kernel
theorem dX8_init_163 : decode cX8_init 163 = .ok (.return_, 1) := by decide +kernel
theorem dX8_in_0 : decode cX8_in 0 = .ok (.lload_n 0, 1) := by decide +kernel
theorem dX8_in_1 : decode cX8_in 1 = .ok (.lload_n 2, 1) := by decide +kernel
theorem dX8_in_2 : decode cX8_in 2 = .ok (.lcmp, 1) := by decide +kernel
theorem dX8_in_3 : decode cX8_in 3 = .ok (.ifCond .lt 14, 3) := by decide +kernel
theorem dX8_in_6 : decode cX8_in 6 = .ok (.lload_n 0, 1) := by decide +kernel
theorem dX8_in_7 : decode cX8_in 7 = .ok (.lload 4, 2) := by decide +kernel
theorem dX8_in_9 : decode cX8_in 9 = .ok (.lcmp, 1) := by decide +kernel
theorem dX8_in_10 : decode cX8_in 10 = .ok (.ifCond .gt 7, 3) := by decide +kernel
theorem dX8_in_13 : decode cX8_in 13 = .ok (.iconst 1, 1) := by decide +kernel
theorem dX8_in_14 : decode cX8_in 14 = .ok (.goto 4, 3) := by decide +kernel
theorem dX8_in_17 : decode cX8_in 17 = .ok (.iconst 0, 1) := by decide +kernel
theorem dX8_in_18 : decode cX8_in 18 = .ok (.ireturn, 1) := by decide +kernel
set_option maxRecDepth 20000 in
theorem ggX8_isYard_X8_in : GoodIn wsX8_isYard wsX8_in := goodIn_r _ [5] (by decide +kernel) (by decide +kernel)
set_option maxRecDepth 20000 in
theorem gX8_isYard_X8_in : GoodIn wsX8_isYard (va_wsS RX8 63 yX8_in wsX8_in) := goodIn_app (goodIn_of _ (by decide +kernel)) ggX8_isYard_X8_in
theorem dX8_isYard_0 : decode cX8_isYard 0 = .ok (.iload_n 1, 1) := by decide +kernel
theorem dX8_isYard_1 : decode cX8_isYard 1 = .ok (.i2l, 1) := by decide +kernel
theorem dX8_isYard_2 : decode cX8_isYard 2 = .ok (.lconst 0, 1) := by decide +kernel
theorem dX8_isYard_3 : decode cX8_isYard 3 = .ok (.aload_n 0, 1) := by decide +kernel
theorem dX8_isYard_4 : decode cX8_isYard 4 = .ok (.getfield 60, 3) := by decide +kernel
theorem dX8_isYard_7 : decode cX8_isYard 7 = .ok (.iconst 1, 1) := by decide +kernel
theorem dX8_isYard_8 : decode cX8_isYard 8 = .ok (.isub, 1) := by decide +kernel
theorem dX8_isYard_9 : decode cX8_isYard 9 = .ok (.i2l, 1) := by decide +kernel
theorem dX8_isYard_10 : decode cX8_isYard 10 = .ok (.invokestatic 63, 3) := by decide +kernel
theorem dX8_isYard_13 : decode cX8_isYard 13 = .ok (.ireturn, 1) := by decide +kernel
set_option maxRecDepth 20000 in
theorem ggX8_isTime_X8_in : GoodIn wsX8_isTime wsX8_in := goodIn_r _ [5] (by decide +kernel) (by decide +kernel)
set_option maxRecDepth 20000 in
theorem gX8_isTime_X8_in : GoodIn wsX8_isTime (va_wsS RX8 63 yX8_in wsX8_in) := goodIn_app (goodIn_of _ (by decide +kernel)) ggX8_isTime_X8_in
theorem dX8_isTime_0 : decode cX8_isTime 0 = .ok (.iload_n 0, 1) := by decide +kernel
theorem dX8_isTime_1 : decode cX8_isTime 1 = .ok (.i2l, 1) := by decide +kernel
theorem dX8_isTime_2 : decode cX8_isTime 2 = .ok (.lconst 1, 1) := by decide +kernel
theorem dX8_isTime_3 : decode cX8_isTime 3 = .ok (.ldc2_w 67, 3) := by decide +kernel
theorem dX8_isTime_6 : decode cX8_isTime 6 = .ok (.invokestatic 63, 3) := by decide +kernel
theorem dX8_isTime_9 : decode cX8_isTime 9 = .ok (.ireturn, 1) := by decide +kernel
theorem dX8_copy_0 : decode cX8_copy 0 = .ok (.iconst 0, 1) := by decide +kernel
theorem dX8_copy_1 : decode cX8_copy 1 = .ok (.istore_n 3, 1) := by decide +kernel
theorem dX8_copy_2 : decode cX8_copy 2 = .ok (.iload_n 3, 1) := by decide +kernel
theorem dX8_copy_3 : decode cX8_copy 3 = .ok (.bipush 51, 2) := by decide +kernel
theorem dX8_copy_5 : decode cX8_copy 5 = .ok (.if_icmp .ge 25, 3) := by decide +kernel
theorem dX8_copy_8 : decode cX8_copy 8 = .ok (.aload_n 0, 1) := by decide +kernel
theorem dX8_copy_9 : decode cX8_copy 9 = .ok (.getfield 7, 3) := by decide +kernel
theorem dX8_copy_12 : decode cX8_copy 12 = .ok (.iload_n 2, 1) := by decide +kernel
theorem dX8_copy_13 : decode cX8_copy 13 = .ok (.iload_n 3, 1) := by decide +kernel
theorem dX8_copy_14 : decode cX8_copy 14 = .ok (.iadd, 1) := by decide +kernel
theorem dX8_copy_15 : decode cX8_copy 15 = .ok (.aload_n 0, 1) := by decide +kernel
theorem dX8_copy_16 : decode cX8_copy 16 = .ok (.getfield 7, 3) := by decide +kernel
theorem dX8_copy_19 : decode cX8_copy 19 = .ok (.iload_n 1, 1) := by decide +kernel
theorem dX8_copy_20 : decode cX8_copy 20 = .ok (.iload_n 3, 1) := by decide +kernel
theorem dX8_copy_21 : decode cX8_copy 21 = .ok (.iadd, 1) := by decide +kernel
theorem dX8_copy_22 : decode cX8_copy 22 = .ok (.iaload, 1) := by decide +kernel
theorem dX8_copy_23 : decode cX8_copy 23 = .ok (.iastore, 1) := by decide +kernel
theorem dX8_copy_24 : decode cX8_copy 24 = .ok (.iinc 3 1, 3) := by decide +kernel
theorem dX8_copy_27 : decode cX8_copy 27 = .ok (.goto (-25), 3) := by decide +kernel
theorem dX8_copy_30 : decode cX8_copy 30 = .ok (.return_, 1) := by decide +kernel
theorem dX8_reads_0 : decode cX8_reads 0 = .ok (.aload_n 0, 1) := by decide +kernel
theorem dX8_reads_1 : decode cX8_reads 1 = .ok (.getfield 13, 3) := by decide +kernel
theorem dX8_reads_4 : decode cX8_reads 4 = .ok (.bipush 9, 2) := by decide +kernel
theorem dX8_reads_6 : decode cX8_reads 6 = .ok (.iconst 4, 1) := by decide +kernel
theorem dX8_reads_7 : decode cX8_reads 7 = .ok (.iastore, 1) := by decide +kernel
theorem dX8_reads_8 : decode cX8_reads 8 = .ok (.aload_n 0, 1) := by decide +kernel
theorem dX8_reads_9 : decode cX8_reads 9 = .ok (.getfield 13, 3) := by decide +kernel
theorem dX8_reads_12 : decode cX8_reads 12 = .ok (.bipush 10, 2) := by decide +kernel
theorem dX8_reads_14 : decode cX8_reads 14 = .ok (.bipush 10, 2) := by decide +kernel
theorem dX8_reads_16 : decode cX8_reads 16 = .ok (.iastore, 1) := by decide +kernel
theorem dX8_reads_17 : decode cX8_reads 17 = .ok (.aload_n 0, 1) := by decide +kernel
theorem dX8_reads_18 : decode cX8_reads 18 = .ok (.getfield 13, 3) := by decide +kernel
theorem dX8_reads_21 : decode cX8_reads 21 = .ok (.bipush 11, 2) := by decide +kernel
theorem dX8_reads_23 : decode cX8_reads 23 = .ok (.iconst 4, 1) := by decide +kernel
theorem dX8_reads_24 : decode cX8_reads 24 = .ok (.iastore, 1) := by decide +kernel
theorem dX8_reads_25 : decode cX8_reads 25 = .ok (.aload_n 0, 1) := by decide +kernel
theorem dX8_reads_26 : decode cX8_reads 26 = .ok (.getfield 13, 3) := by decide +kernel
theorem dX8_reads_29 : decode cX8_reads 29 = .ok (.bipush 12, 2) := by decide +kernel
theorem dX8_reads_31 : decode cX8_reads 31 = .ok (.iconst 0, 1) := by decide +kernel
theorem dX8_reads_32 : decode cX8_reads 32 = .ok (.iastore, 1) := by decide +kernel
theorem dX8_reads_33 : decode cX8_reads 33 = .ok (.aload_n 0, 1) := by decide +kernel
theorem dX8_reads_34 : decode cX8_reads 34 = .ok (.getfield 13, 3) := by decide +kernel
theorem dX8_reads_37 : decode cX8_reads 37 = .ok (.bipush 13, 2) := by decide +kernel
theorem dX8_reads_39 : decode cX8_reads 39 = .ok (.bipush 60, 2) := by decide +kernel
theorem dX8_reads_41 : decode cX8_reads 41 = .ok (.iastore, 1) := by decide +kernel
theorem dX8_reads_42 : decode cX8_reads 42 = .ok (.aload_n 0, 1) := by decide +kernel
theorem dX8_reads_43 : decode cX8_reads 43 = .ok (.getfield 13, 3) := by decide +kernel
theorem dX8_reads_46 : decode cX8_reads 46 = .ok (.bipush 14, 2) := by decide +kernel
theorem dX8_reads_48 : decode cX8_reads 48 = .ok (.bipush 20, 2) := by decide +kernel
theorem dX8_reads_50 : decode cX8_reads 50 = .ok (.iastore, 1) := by decide +kernel
theorem dX8_reads_51 : decode cX8_reads 51 = .ok (.aload_n 0, 1) := by decide +kernel
theorem dX8_reads_52 : decode cX8_reads 52 = .ok (.getfield 13, 3) := by decide +kernel
theorem dX8_reads_55 : decode cX8_reads 55 = .ok (.bipush 15, 2) := by decide +kernel
theorem dX8_reads_57 : decode cX8_reads 57 = .ok (.iconst 3, 1) := by decide +kernel
theorem dX8_reads_58 : decode cX8_reads 58 = .ok (.iastore, 1) := by decide +kernel
theorem dX8_reads_59 : decode cX8_reads 59 = .ok (.aload_n 0, 1) := by decide +kernel
theorem dX8_reads_60 : decode cX8_reads 60 = .ok (.getfield 13, 3) := by decide +kernel
theorem dX8_reads_63 : decode cX8_reads 63 = .ok (.bipush 16, 2) := by decide +kernel
theorem dX8_reads_65 : decode cX8_reads 65 = .ok (.bipush 10, 2) := by decide +kernel
theorem dX8_reads_67 : decode cX8_reads 67 = .ok (.iastore, 1) := by decide +kernel
theorem dX8_reads_68 : decode cX8_reads 68 = .ok (.aload_n 0, 1) := by decide +kernel
theorem dX8_reads_69 : decode cX8_reads 69 = .ok (.getfield 13, 3) := by decide +kernel
theorem dX8_reads_72 : decode cX8_reads 72 = .ok (.bipush 17, 2) := by decide +kernel
theorem dX8_reads_74 : decode cX8_reads 74 = .ok (.bipush 50, 2) := by decide +kernel
theorem dX8_reads_76 : decode cX8_reads 76 = .ok (.iastore, 1) := by decide +kernel
theorem dX8_reads_77 : decode cX8_reads 77 = .ok (.aload_n 0, 1) := by decide +kernel
theorem dX8_reads_78 : decode cX8_reads 78 = .ok (.iconst 0, 1) := by decide +kernel
theorem dX8_reads_79 : decode cX8_reads 79 = .ok (.putfield 69, 3) := by decide +kernel
theorem dX8_reads_82 : decode cX8_reads 82 = .ok (.aload_n 0, 1) := by decide +kernel
theorem dX8_reads_83 : decode cX8_reads 83 = .ok (.iconst 0, 1) := by decide +kernel
theorem dX8_reads_84 : decode cX8_reads 84 = .ok (.putfield 72, 3) := by decide +kernel
theorem dX8_reads_87 : decode cX8_reads 87 = .ok (.aload_n 0, 1) := by decide +kernel
theorem dX8_reads_88 : decode cX8_reads 88 = .ok (.iconst 0, 1) := by decide +kernel
theorem dX8_reads_89 : decode cX8_reads 89 = .ok (.putfield 75, 3) := by decide +kernel
theorem dX8_reads_92 : decode cX8_reads 92 = .ok (.aload_n 0, 1) := by decide +kernel
theorem dX8_reads_93 : decode cX8_reads 93 = .ok (.iconst 0, 1) := by decide +kernel
theorem dX8_reads_94 : decode cX8_reads 94 = .ok (.putfield 78, 3) := by decide +kernel
theorem dX8_reads_97 : decode cX8_reads 97 = .ok (.aload_n 0, 1) := by decide +kernel
theorem dX8_reads_98 : decode cX8_reads 98 = .ok (.iconst (-1), 1) := by decide +kernel
theorem dX8_reads_99 : decode cX8_reads 99 = .ok (.putfield 23, 3) := by decide +kernel
theorem dX8_reads_102 : decode cX8_reads 102 = .ok (.return_, 1) := by decide +kernel
set_option maxRecDepth 20000 in
theorem ggX8_feed_X8_in : GoodIn wsX8_feed wsX8_in := goodIn_r _ [9] (by decide +kernel) (by decide +kernel)
set_option maxRecDepth 20000 in
theorem gX8_feed_X8_in : GoodIn wsX8_feed (va_wsS RX8 63 yX8_in wsX8_in) := goodIn_app (goodIn_of _ (by decide +kernel)) ggX8_feed_X8_in
theorem dX8_feed_0 : decode cX8_feed 0 = .ok (.iload_n 1, 1) := by decide +kernel
theorem dX8_feed_1 : decode cX8_feed 1 = .ok (.i2l, 1) := by decide +kernel
theorem dX8_feed_2 : decode cX8_feed 2 = .ok (.lconst 0, 1) := by decide +kernel
theorem dX8_feed_3 : decode cX8_feed 3 = .ok (.ldc2_w 81, 3) := by decide +kernel
theorem dX8_feed_6 : decode cX8_feed 6 = .ok (.invokestatic 63, 3) := by decide +kernel
theorem dX8_feed_9 : decode cX8_feed 9 = .ok (.ifCond .ne 6, 3) := by decide +kernel
theorem dX8_feed_12 : decode cX8_feed 12 = .ok (.ldc 83, 2) := by decide +kernel
theorem dX8_feed_14 : decode cX8_feed 14 = .ok (.ireturn, 1) := by decide +kernel
theorem dX8_feed_15 : decode cX8_feed 15 = .ok (.aload_n 0, 1) := by decide +kernel
theorem dX8_feed_16 : decode cX8_feed 16 = .ok (.getfield 84, 3) := by decide +kernel
theorem dX8_feed_19 : decode cX8_feed 19 = .ok (.sipush 230, 3) := by decide +kernel
theorem dX8_feed_22 : decode cX8_feed 22 = .ok (.if_icmp .ne 6, 3) := by decide +kernel
theorem dX8_feed_25 : decode cX8_feed 25 = .ok (.ldc 87, 2) := by decide +kernel
theorem dX8_feed_27 : decode cX8_feed 27 = .ok (.ireturn, 1) := by decide +kernel
theorem dX8_feed_28 : decode cX8_feed 28 = .ok (.aload_n 0, 1) := by decide +kernel
theorem dX8_feed_29 : decode cX8_feed 29 = .ok (.getfield 20, 3) := by decide +kernel
theorem dX8_feed_32 : decode cX8_feed 32 = .ok (.aload_n 0, 1) := by decide +kernel
theorem dX8_feed_33 : decode cX8_feed 33 = .ok (.getfield 84, 3) := by decide +kernel
theorem dX8_feed_36 : decode cX8_feed 36 = .ok (.iload_n 1, 1) := by decide +kernel
theorem dX8_feed_37 : decode cX8_feed 37 = .ok (.iastore, 1) := by decide +kernel
theorem dX8_feed_38 : decode cX8_feed 38 = .ok (.aload_n 0, 1) := by decide +kernel
theorem dX8_feed_39 : decode cX8_feed 39 = .ok (.dup, 1) := by decide +kernel
theorem dX8_feed_40 : decode cX8_feed 40 = .ok (.getfield 84, 3) := by decide +kernel
theorem dX8_feed_43 : decode cX8_feed 43 = .ok (.iconst 1, 1) := by decide +kernel
theorem dX8_feed_44 : decode cX8_feed 44 = .ok (.iadd, 1) := by decide +kernel
theorem dX8_feed_45 : decode cX8_feed 45 = .ok (.putfield 84, 3) := by decide +kernel
theorem dX8_feed_48 : decode cX8_feed 48 = .ok (.aload_n 0, 1) := by decide +kernel
theorem dX8_feed_49 : decode cX8_feed 49 = .ok (.getfield 84, 3) := by decide +kernel
theorem dX8_feed_52 : decode cX8_feed 52 = .ok (.ireturn, 1) := by decide +kernel
theorem dX8_letterAt_0 : decode cX8_letterAt 0 = .ok (.iload_n 1, 1) := by decide +kernel
theorem dX8_letterAt_1 : decode cX8_letterAt 1 = .ok (.aload_n 0, 1) := by decide +kernel
theorem dX8_letterAt_2 : decode cX8_letterAt 2 = .ok (.getfield 84, 3) := by decide +kernel
theorem dX8_letterAt_5 : decode cX8_letterAt 5 = .ok (.if_icmp .ge 12, 3) := by decide +kernel
theorem dX8_letterAt_8 : decode cX8_letterAt 8 = .ok (.aload_n 0, 1) := by decide +kernel
theorem dX8_letterAt_9 : decode cX8_letterAt 9 = .ok (.getfield 20, 3) := by decide +kernel
theorem dX8_letterAt_12 : decode cX8_letterAt 12 = .ok (.iload_n 1, 1) := by decide +kernel
theorem dX8_letterAt_13 : decode cX8_letterAt 13 = .ok (.iaload, 1) := by decide +kernel
theorem dX8_letterAt_14 : decode cX8_letterAt 14 = .ok (.goto 4, 3) := by decide +kernel
theorem dX8_letterAt_17 : decode cX8_letterAt 17 = .ok (.iconst (-1), 1) := by decide +kernel
theorem dX8_letterAt_18 : decode cX8_letterAt 18 = .ok (.ireturn, 1) := by decide +kernel
set_option maxRecDepth 20000 in
theorem ggX8_here_X8_letterAt : GoodIn wsX8_here wsX8_letterAt := goodIn_r _ [7, 8, 9, 10, 11, 12, 13, 14, 15, 16, 17, 18, 19, 20, 21, 22, 23, 24, 25, 26, 27, 28, 29, 30, 31, 32, 33, 34, 35, 36, 37] (by decide +kernel) (by decide +kernel)
set_option maxRecDepth 20000 in
theorem gX8_here_X8_letterAt : GoodIn wsX8_here (wsV RX8 88 RX8 yX8_letterAt wsX8_letterAt) := goodIn_app (goodIn_of _ (by decide +kernel)) ggX8_here_X8_letterAt
theorem dX8_here_0 : decode cX8_here 0 = .ok (.aload_n 0, 1) := by decide +kernel
theorem dX8_here_1 : decode cX8_here 1 = .ok (.aload_n 0, 1) := by decide +kernel
theorem dX8_here_2 : decode cX8_here 2 = .ok (.getfield 75, 3) := by decide +kernel
theorem dX8_here_5 : decode cX8_here 5 = .ok (.invokevirtual 88, 3) := by decide +kernel
theorem dX8_here_8 : decode cX8_here 8 = .ok (.bipush 32, 2) := by decide +kernel
theorem dX8_here_10 : decode cX8_here 10 = .ok (.if_icmp .ne 16, 3) := by decide +kernel
theorem dX8_here_13 : decode cX8_here 13 = .ok (.aload_n 0, 1) := by decide +kernel
theorem dX8_here_14 : decode cX8_here 14 = .ok (.dup, 1) := by decide +kernel
theorem dX8_here_15 : decode cX8_here 15 = .ok (.getfield 75, 3) := by decide +kernel
theorem dX8_here_18 : decode cX8_here 18 = .ok (.iconst 1, 1) := by decide +kernel
theorem dX8_here_19 : decode cX8_here 19 = .ok (.iadd, 1) := by decide +kernel
theorem dX8_here_20 : decode cX8_here 20 = .ok (.putfield 75, 3) := by decide +kernel
theorem dX8_here_23 : decode cX8_here 23 = .ok (.goto (-23), 3) := by decide +kernel
theorem dX8_here_26 : decode cX8_here 26 = .ok (.aload_n 0, 1) := by decide +kernel
theorem dX8_here_27 : decode cX8_here 27 = .ok (.aload_n 0, 1) := by decide +kernel
theorem dX8_here_28 : decode cX8_here 28 = .ok (.getfield 75, 3) := by decide +kernel
theorem dX8_here_31 : decode cX8_here 31 = .ok (.putfield 92, 3) := by decide +kernel
theorem dX8_here_34 : decode cX8_here 34 = .ok (.aload_n 0, 1) := by decide +kernel
theorem dX8_here_35 : decode cX8_here 35 = .ok (.aload_n 0, 1) := by decide +kernel
theorem dX8_here_36 : decode cX8_here 36 = .ok (.getfield 75, 3) := by decide +kernel
theorem dX8_here_39 : decode cX8_here 39 = .ok (.invokevirtual 88, 3) := by decide +kernel
theorem dX8_here_42 : decode cX8_here 42 = .ok (.ireturn, 1) := by decide +kernel
theorem dX8_fails_0 : decode cX8_fails 0 = .ok (.aload_n 0, 1) := by decide +kernel
theorem dX8_fails_1 : decode cX8_fails 1 = .ok (.iload_n 1, 1) := by decide +kernel
theorem dX8_fails_2 : decode cX8_fails 2 = .ok (.putfield 78, 3) := by decide +kernel
theorem dX8_fails_5 : decode cX8_fails 5 = .ok (.aload_n 0, 1) := by decide +kernel
theorem dX8_fails_6 : decode cX8_fails 6 = .ok (.iload_n 2, 1) := by decide +kernel
theorem dX8_fails_7 : decode cX8_fails 7 = .ok (.putfield 23, 3) := by decide +kernel
theorem dX8_fails_10 : decode cX8_fails 10 = .ok (.iconst 0, 1) := by decide +kernel
theorem dX8_fails_11 : decode cX8_fails 11 = .ok (.ireturn, 1) := by decide +kernel
set_option maxRecDepth 20000 in
theorem ggX8_takes_X8_here : GoodIn wsX8_takes wsX8_here := goodIn_r _ [7, 2, 1, 8, 9, 10, 6, 11, 12, 13, 20, 21, 22, 23, 24, 25, 26, 27, 28, 29, 30, 31, 32, 33, 34, 35, 36, 37, 38, 39, 40, 41, 42, 43, 44, 45, 46, 47] (by decide +kernel) (by decide +kernel)
set_option maxRecDepth 20000 in
theorem gX8_takes_X8_here : GoodIn wsX8_takes (wsV RX8 95 RX8 yX8_here wsX8_here) := goodIn_app (goodIn_of _ (by decide +kernel)) ggX8_takes_X8_here
set_option maxRecDepth 20000 in
theorem ggX8_takes_X8_fails : GoodIn wsX8_takes wsX8_fails := goodIn_r _ [17, 18, 19, 20, 21, 22, 23, 24, 25, 26, 27, 28, 29, 30, 31, 32, 33, 34, 35, 36, 37, 38, 39, 40, 41, 42, 43, 44, 45, 46, 47] (by decide +kernel) (by decide +kernel)
set_option maxRecDepth 20000 in
theorem gX8_takes_X8_fails : GoodIn wsX8_takes (wsV RX8 99 RX8 yX8_fails wsX8_fails) := goodIn_app (goodIn_of _ (by decide +kernel)) ggX8_takes_X8_fails
theorem dX8_takes_0 : decode cX8_takes 0 = .ok (.aload_n 0, 1) := by decide +kernel
theorem dX8_takes_1 : decode cX8_takes 1 = .ok (.invokevirtual 95, 3) := by decide +kernel
theorem dX8_takes_4 : decode cX8_takes 4 = .ok (.iload_n 1, 1) := by decide +kernel
theorem dX8_takes_5 : decode cX8_takes 5 = .ok (.if_icmp .eq 13, 3) := by decide +kernel
theorem dX8_takes_8 : decode cX8_takes 8 = .ok (.aload_n 0, 1) := by decide +kernel
theorem dX8_takes_9 : decode cX8_takes 9 = .ok (.iconst 1, 1) := by decide +kernel
theorem dX8_takes_10 : decode cX8_takes 10 = .ok (.aload_n 0, 1) := by decide +kernel
theorem dX8_takes_11 : decode cX8_takes 11 = .ok (.getfield 92, 3) := by decide +kernel
theorem dX8_takes_14 : decode cX8_takes 14 = .ok (.invokevirtual 99, 3) := by decide +kernel
theorem dX8_takes_17 : decode cX8_takes 17 = .ok (.ireturn, 1) := by decide +kernel
theorem dX8_takes_18 : decode cX8_takes 18 = .ok (.aload_n 0, 1) := by decide +kernel
theorem dX8_takes_19 : decode cX8_takes 19 = .ok (.dup, 1) := by decide +kernel
theorem dX8_takes_20 : decode cX8_takes 20 = .ok (.getfield 75, 3) := by decide +kernel
theorem dX8_takes_23 : decode cX8_takes 23 = .ok (.iconst 1, 1) := by decide +kernel
theorem dX8_takes_24 : decode cX8_takes 24 = .ok (.iadd, 1) := by decide +kernel
theorem dX8_takes_25 : decode cX8_takes 25 = .ok (.putfield 75, 3) := by decide +kernel
theorem dX8_takes_28 : decode cX8_takes 28 = .ok (.iconst 1, 1) := by decide +kernel
theorem dX8_takes_29 : decode cX8_takes 29 = .ok (.ireturn, 1) := by decide +kernel
set_option maxRecDepth 20000 in
theorem ggX8_takesNumber_X8_here : GoodIn wsX8_takesNumber wsX8_here := goodIn_r _ [10, 5, 3, 11, 12, 13, 9, 14, 15, 16, 26, 27, 28, 29, 30, 31, 32, 33, 34, 35, 36, 37, 38, 39, 40, 41, 42, 43, 44, 45, 46, 47, 48, 49, 50, 51, 52, 53] (by decide +kernel) (by decide +kernel)
set_option maxRecDepth 20000 in
theorem gX8_takesNumber_X8_here : GoodIn wsX8_takesNumber (wsV RX8 95 RX8 yX8_here wsX8_here) := goodIn_app (goodIn_of _ (by decide +kernel)) ggX8_takesNumber_X8_here
set_option maxRecDepth 20000 in
theorem ggX8_takesNumber_X8_in : GoodIn wsX8_takesNumber wsX8_in := goodIn_r _ [19] (by decide +kernel) (by decide +kernel)
set_option maxRecDepth 20000 in
theorem gX8_takesNumber_X8_in : GoodIn wsX8_takesNumber (va_wsS RX8 63 yX8_in wsX8_in) := goodIn_app (goodIn_of _ (by decide +kernel)) ggX8_takesNumber_X8_in
set_option maxRecDepth 20000 in
theorem ggX8_takesNumber_X8_fails : GoodIn wsX8_takesNumber wsX8_fails := goodIn_r _ [23, 24, 25, 26, 27, 28, 29, 30, 31, 32, 33, 34, 35, 36, 37, 38, 39, 40, 41, 42, 43, 44, 45, 46, 47, 48, 49, 50, 51, 52, 53] (by decide +kernel) (by decide +kernel)
set_option maxRecDepth 20000 in
theorem gX8_takesNumber_X8_fails : GoodIn wsX8_takesNumber (wsV RX8 99 RX8 yX8_fails wsX8_fails) := goodIn_app (goodIn_of _ (by decide +kernel)) ggX8_takesNumber_X8_fails
set_option maxRecDepth 20000 in
theorem ggX8_takesNumber_X8_letterAt : GoodIn wsX8_takesNumber wsX8_letterAt := goodIn_r _ [14, 15, 16, 26, 27, 28, 29, 30, 31, 32, 33, 34, 35, 36, 37, 38, 39, 40, 41, 42, 43, 44, 45, 46, 47, 48, 49, 50, 51, 52, 53] (by decide +kernel) (by decide +kernel)
set_option maxRecDepth 20000 in
theorem gX8_takesNumber_X8_letterAt : GoodIn wsX8_takesNumber (wsV RX8 88 RX8 yX8_letterAt wsX8_letterAt) := goodIn_app (goodIn_of _ (by decide +kernel)) ggX8_takesNumber_X8_letterAt
theorem dX8_takesNumber_0 : decode cX8_takesNumber 0 = .ok (.aload_n 0, 1) := by decide +kernel
theorem dX8_takesNumber_1 : decode cX8_takesNumber 1 = .ok (.invokevirtual 95, 3) := by decide +kernel
theorem dX8_takesNumber_4 : decode cX8_takesNumber 4 = .ok (.i2l, 1) := by decide +kernel
theorem dX8_takesNumber_5 : decode cX8_takesNumber 5 = .ok (.ldc2_w 103, 3) := by decide +kernel
theorem dX8_takesNumber_8 : decode cX8_takesNumber 8 = .ok (.ldc2_w 105, 3) := by decide +kernel
theorem dX8_takesNumber_11 : decode cX8_takesNumber 11 = .ok (.invokestatic 63, 3) := by decide +kernel
theorem dX8_takesNumber_14 : decode cX8_takesNumber 14 = .ok (.ifCond .ne 13, 3) := by decide +kernel
theorem dX8_takesNumber_17 : decode cX8_takesNumber 17 = .ok (.aload_n 0, 1) := by decide +kernel
theorem dX8_takesNumber_18 : decode cX8_takesNumber 18 = .ok (.iconst 1, 1) := by decide +kernel
theorem dX8_takesNumber_19 : decode cX8_takesNumber 19 = .ok (.aload_n 0, 1) := by decide +kernel
theorem dX8_takesNumber_20 : decode cX8_takesNumber 20 = .ok (.getfield 92, 3) := by decide +kernel
theorem dX8_takesNumber_23 : decode cX8_takesNumber 23 = .ok (.invokevirtual 99, 3) := by decide +kernel
theorem dX8_takesNumber_26 : decode cX8_takesNumber 26 = .ok (.ireturn, 1) := by decide +kernel
theorem dX8_takesNumber_27 : decode cX8_takesNumber 27 = .ok (.aload_n 0, 1) := by decide +kernel
theorem dX8_takesNumber_28 : decode cX8_takesNumber 28 = .ok (.iconst 0, 1) := by decide +kernel
theorem dX8_takesNumber_29 : decode cX8_takesNumber 29 = .ok (.putfield 107, 3) := by decide +kernel
theorem dX8_takesNumber_32 : decode cX8_takesNumber 32 = .ok (.aload_n 0, 1) := by decide +kernel
theorem dX8_takesNumber_33 : decode cX8_takesNumber 33 = .ok (.aload_n 0, 1) := by decide +kernel
theorem dX8_takesNumber_34 : decode cX8_takesNumber 34 = .ok (.getfield 75, 3) := by decide +kernel
theorem dX8_takesNumber_37 : decode cX8_takesNumber 37 = .ok (.invokevirtual 88, 3) := by decide +kernel
theorem dX8_takesNumber_40 : decode cX8_takesNumber 40 = .ok (.i2l, 1) := by decide +kernel
theorem dX8_takesNumber_41 : decode cX8_takesNumber 41 = .ok (.ldc2_w 103, 3) := by decide +kernel
theorem dX8_takesNumber_44 : decode cX8_takesNumber 44 = .ok (.ldc2_w 105, 3) := by decide +kernel
theorem dX8_takesNumber_47 : decode cX8_takesNumber 47 = .ok (.invokestatic 63, 3) := by decide +kernel
theorem dX8_takesNumber_50 : decode cX8_takesNumber 50 = .ok (.ifCond .eq 59, 3) := by decide +kernel
theorem dX8_takesNumber_53 : decode cX8_takesNumber 53 = .ok (.aload_n 0, 1) := by decide +kernel
theorem dX8_takesNumber_54 : decode cX8_takesNumber 54 = .ok (.aload_n 0, 1) := by decide +kernel
theorem dX8_takesNumber_55 : decode cX8_takesNumber 55 = .ok (.getfield 75, 3) := by decide +kernel
theorem dX8_takesNumber_58 : decode cX8_takesNumber 58 = .ok (.aload_n 0, 1) := by decide +kernel
theorem dX8_takesNumber_59 : decode cX8_takesNumber 59 = .ok (.getfield 92, 3) := by decide +kernel
theorem dX8_takesNumber_62 : decode cX8_takesNumber 62 = .ok (.isub, 1) := by decide +kernel
theorem dX8_takesNumber_63 : decode cX8_takesNumber 63 = .ok (.iconst 3, 1) := by decide +kernel
theorem dX8_takesNumber_64 : decode cX8_takesNumber 64 = .ok (.if_icmp .ge 25, 3) := by decide +kernel
theorem dX8_takesNumber_67 : decode cX8_takesNumber 67 = .ok (.bipush 10, 2) := by decide +kernel
theorem dX8_takesNumber_69 : decode cX8_takesNumber 69 = .ok (.aload_n 0, 1) := by decide +kernel
theorem dX8_takesNumber_70 : decode cX8_takesNumber 70 = .ok (.getfield 107, 3) := by decide +kernel
theorem dX8_takesNumber_73 : decode cX8_takesNumber 73 = .ok (.imul, 1) := by decide +kernel
theorem dX8_takesNumber_74 : decode cX8_takesNumber 74 = .ok (.aload_n 0, 1) := by decide +kernel
theorem dX8_takesNumber_75 : decode cX8_takesNumber 75 = .ok (.aload_n 0, 1) := by decide +kernel
theorem dX8_takesNumber_76 : decode cX8_takesNumber 76 = .ok (.getfield 75, 3) := by decide +kernel
theorem dX8_takesNumber_79 : decode cX8_takesNumber 79 = .ok (.invokevirtual 88, 3) := by decide +kernel
theorem dX8_takesNumber_82 : decode cX8_takesNumber 82 = .ok (.iadd, 1) := by decide +kernel
theorem dX8_takesNumber_83 : decode cX8_takesNumber 83 = .ok (.bipush 48, 2) := by decide +kernel
theorem dX8_takesNumber_85 : decode cX8_takesNumber 85 = .ok (.isub, 1) := by decide +kernel
theorem dX8_takesNumber_86 : decode cX8_takesNumber 86 = .ok (.goto 7, 3) := by decide +kernel
theorem dX8_takesNumber_89 : decode cX8_takesNumber 89 = .ok (.aload_n 0, 1) := by decide +kernel
theorem dX8_takesNumber_90 : decode cX8_takesNumber 90 = .ok (.getfield 107, 3) := by decide +kernel
theorem dX8_takesNumber_93 : decode cX8_takesNumber 93 = .ok (.putfield 107, 3) := by decide +kernel
theorem dX8_takesNumber_96 : decode cX8_takesNumber 96 = .ok (.aload_n 0, 1) := by decide +kernel
theorem dX8_takesNumber_97 : decode cX8_takesNumber 97 = .ok (.dup, 1) := by decide +kernel
theorem dX8_takesNumber_98 : decode cX8_takesNumber 98 = .ok (.getfield 75, 3) := by decide +kernel
theorem dX8_takesNumber_101 : decode cX8_takesNumber 101 = .ok (.iconst 1, 1) := by decide +kernel
theorem dX8_takesNumber_102 : decode cX8_takesNumber 102 = .ok (.iadd, 1) := by decide +kernel
theorem dX8_takesNumber_103 : decode cX8_takesNumber 103 = .ok (.putfield 75, 3) := by decide +kernel
theorem dX8_takesNumber_106 : decode cX8_takesNumber 106 = .ok (.goto (-74), 3) := by decide +kernel
theorem dX8_takesNumber_109 : decode cX8_takesNumber 109 = .ok (.aload_n 0, 1) := by decide +kernel
theorem dX8_takesNumber_110 : decode cX8_takesNumber 110 = .ok (.getfield 75, 3) := by decide +kernel
theorem dX8_takesNumber_113 : decode cX8_takesNumber 113 = .ok (.aload_n 0, 1) := by decide +kernel
theorem dX8_takesNumber_114 : decode cX8_takesNumber 114 = .ok (.getfield 92, 3) := by decide +kernel
theorem dX8_takesNumber_117 : decode cX8_takesNumber 117 = .ok (.isub, 1) := by decide +kernel
theorem dX8_takesNumber_118 : decode cX8_takesNumber 118 = .ok (.iconst 4, 1) := by decide +kernel
theorem dX8_takesNumber_119 : decode cX8_takesNumber 119 = .ok (.if_icmp .ge 18, 3) := by decide +kernel
theorem dX8_takesNumber_122 : decode cX8_takesNumber 122 = .ok (.aload_n 0, 1) := by decide +kernel
theorem dX8_takesNumber_123 : decode cX8_takesNumber 123 = .ok (.getfield 107, 3) := by decide +kernel
theorem dX8_takesNumber_126 : decode cX8_takesNumber 126 = .ok (.i2l, 1) := by decide +kernel
theorem dX8_takesNumber_127 : decode cX8_takesNumber 127 = .ok (.iload_n 1, 1) := by decide +kernel
theorem dX8_takesNumber_128 : decode cX8_takesNumber 128 = .ok (.i2l, 1) := by decide +kernel
theorem dX8_takesNumber_129 : decode cX8_takesNumber 129 = .ok (.iload_n 2, 1) := by decide +kernel
theorem dX8_takesNumber_130 : decode cX8_takesNumber 130 = .ok (.i2l, 1) := by decide +kernel
theorem dX8_takesNumber_131 : decode cX8_takesNumber 131 = .ok (.invokestatic 63, 3) := by decide +kernel
theorem dX8_takesNumber_134 : decode cX8_takesNumber 134 = .ok (.ifCond .ne 15, 3) := by decide +kernel
theorem dX8_takesNumber_137 : decode cX8_takesNumber 137 = .ok (.aload_n 0, 1) := by decide +kernel
theorem dX8_takesNumber_138 : decode cX8_takesNumber 138 = .ok (.iconst 2, 1) := by decide +kernel
theorem dX8_takesNumber_139 : decode cX8_takesNumber 139 = .ok (.aload_n 0, 1) := by decide +kernel
theorem dX8_takesNumber_140 : decode cX8_takesNumber 140 = .ok (.getfield 92, 3) := by decide +kernel
theorem dX8_takesNumber_143 : decode cX8_takesNumber 143 = .ok (.invokevirtual 99, 3) := by decide +kernel
theorem dX8_takesNumber_146 : decode cX8_takesNumber 146 = .ok (.ifCond .eq 7, 3) := by decide +kernel
theorem dX8_takesNumber_149 : decode cX8_takesNumber 149 = .ok (.iconst 1, 1) := by decide +kernel
theorem dX8_takesNumber_150 : decode cX8_takesNumber 150 = .ok (.goto 4, 3) := by decide +kernel
theorem dX8_takesNumber_153 : decode cX8_takesNumber 153 = .ok (.iconst 0, 1) := by decide +kernel
theorem dX8_takesNumber_154 : decode cX8_takesNumber 154 = .ok (.ireturn, 1) := by decide +kernel
set_option maxRecDepth 20000 in
theorem ggX8_tells_X8_takesNumber : GoodIn wsX8_tells wsX8_takesNumber := goodIn_r _ [7, 8, 9, 10, 2, 11, 12, 13, 14, 6, 15, 16, 17, 18, 19, 20, 21, 22, 23, 24, 25, 26, 27, 28, 29, 30, 31, 32, 33, 34, 35, 36, 37, 38, 39, 40, 41, 42, 43, 44, 45, 46, 47, 48, 49, 50, 51, 52, 53, 54, 55, 56, 57, 58] (by decide +kernel) (by decide +kernel)
set_option maxRecDepth 20000 in
theorem gX8_tells_X8_takesNumber : GoodIn wsX8_tells (wsV RX8 110 RX8 yX8_takesNumber wsX8_takesNumber) := goodIn_app (goodIn_of _ (by decide +kernel)) ggX8_tells_X8_takesNumber
theorem dX8_tells_0 : decode cX8_tells 0 = .ok (.aload_n 0, 1) := by decide +kernel
theorem dX8_tells_1 : decode cX8_tells 1 = .ok (.iload_n 2, 1) := by decide +kernel
theorem dX8_tells_2 : decode cX8_tells 2 = .ok (.iload_n 3, 1) := by decide +kernel
theorem dX8_tells_3 : decode cX8_tells 3 = .ok (.invokevirtual 110, 3) := by decide +kernel
theorem dX8_tells_6 : decode cX8_tells 6 = .ok (.istore 4, 2) := by decide +kernel
theorem dX8_tells_8 : decode cX8_tells 8 = .ok (.aload_n 0, 1) := by decide +kernel
theorem dX8_tells_9 : decode cX8_tells 9 = .ok (.getfield 13, 3) := by decide +kernel
theorem dX8_tells_12 : decode cX8_tells 12 = .ok (.bipush 9, 2) := by decide +kernel
theorem dX8_tells_14 : decode cX8_tells 14 = .ok (.iload_n 1, 1) := by decide +kernel
theorem dX8_tells_15 : decode cX8_tells 15 = .ok (.iadd, 1) := by decide +kernel
theorem dX8_tells_16 : decode cX8_tells 16 = .ok (.iload 4, 2) := by decide +kernel
theorem dX8_tells_18 : decode cX8_tells 18 = .ok (.ifCond .eq 10, 3) := by decide +kernel
theorem dX8_tells_21 : decode cX8_tells 21 = .ok (.aload_n 0, 1) := by decide +kernel
theorem dX8_tells_22 : decode cX8_tells 22 = .ok (.getfield 107, 3) := by decide +kernel
theorem dX8_tells_25 : decode cX8_tells 25 = .ok (.goto 12, 3) := by decide +kernel
theorem dX8_tells_28 : decode cX8_tells 28 = .ok (.aload_n 0, 1) := by decide +kernel
theorem dX8_tells_29 : decode cX8_tells 29 = .ok (.getfield 13, 3) := by decide +kernel
theorem dX8_tells_32 : decode cX8_tells 32 = .ok (.bipush 9, 2) := by decide +kernel
theorem dX8_tells_34 : decode cX8_tells 34 = .ok (.iload_n 1, 1) := by decide +kernel
theorem dX8_tells_35 : decode cX8_tells 35 = .ok (.iadd, 1) := by decide +kernel
theorem dX8_tells_36 : decode cX8_tells 36 = .ok (.iaload, 1) := by decide +kernel
theorem dX8_tells_37 : decode cX8_tells 37 = .ok (.iastore, 1) := by decide +kernel
theorem dX8_tells_38 : decode cX8_tells 38 = .ok (.iload 4, 2) := by decide +kernel
theorem dX8_tells_40 : decode cX8_tells 40 = .ok (.ireturn, 1) := by decide +kernel
set_option maxRecDepth 20000 in
theorem ggX8_takesYard_X8_takesNumber : GoodIn wsX8_takesYard wsX8_takesNumber := goodIn_r _ [9, 10, 11, 12, 3, 13, 14, 15, 16, 8, 17, 18, 19, 20, 21, 22, 23, 24, 25, 26, 27, 28, 29, 30, 31, 32, 33, 34, 35, 36, 37, 38, 39, 40, 41, 42, 43, 44, 45, 46, 47, 48, 49, 50, 51, 52, 53, 54, 55, 56, 57, 58, 59, 60] (by decide +kernel) (by decide +kernel)
set_option maxRecDepth 20000 in
theorem gX8_takesYard_X8_takesNumber : GoodIn wsX8_takesYard (wsV RX8 110 RX8 yX8_takesNumber wsX8_takesNumber) := goodIn_app (goodIn_of _ (by decide +kernel)) ggX8_takesYard_X8_takesNumber
theorem dX8_takesYard_0 : decode cX8_takesYard 0 = .ok (.aload_n 0, 1) := by decide +kernel
theorem dX8_takesYard_1 : decode cX8_takesYard 1 = .ok (.iconst 0, 1) := by decide +kernel
theorem dX8_takesYard_2 : decode cX8_takesYard 2 = .ok (.iconst 3, 1) := by decide +kernel
theorem dX8_takesYard_3 : decode cX8_takesYard 3 = .ok (.invokevirtual 110, 3) := by decide +kernel
theorem dX8_takesYard_6 : decode cX8_takesYard 6 = .ok (.ifCond .ne 5, 3) := by decide +kernel
theorem dX8_takesYard_9 : decode cX8_takesYard 9 = .ok (.iconst 0, 1) := by decide +kernel
theorem dX8_takesYard_10 : decode cX8_takesYard 10 = .ok (.ireturn, 1) := by decide +kernel
theorem dX8_takesYard_11 : decode cX8_takesYard 11 = .ok (.aload_n 0, 1) := by decide +kernel
theorem dX8_takesYard_12 : decode cX8_takesYard 12 = .ok (.getfield 27, 3) := by decide +kernel
theorem dX8_takesYard_15 : decode cX8_takesYard 15 = .ok (.aload_n 0, 1) := by decide +kernel
theorem dX8_takesYard_16 : decode cX8_takesYard 16 = .ok (.getfield 69, 3) := by decide +kernel
theorem dX8_takesYard_19 : decode cX8_takesYard 19 = .ok (.aload_n 0, 1) := by decide +kernel
theorem dX8_takesYard_20 : decode cX8_takesYard 20 = .ok (.getfield 107, 3) := by decide +kernel
theorem dX8_takesYard_23 : decode cX8_takesYard 23 = .ok (.iastore, 1) := by decide +kernel
theorem dX8_takesYard_24 : decode cX8_takesYard 24 = .ok (.aload_n 0, 1) := by decide +kernel
theorem dX8_takesYard_25 : decode cX8_takesYard 25 = .ok (.iconst 0, 1) := by decide +kernel
theorem dX8_takesYard_26 : decode cX8_takesYard 26 = .ok (.bipush 99, 2) := by decide +kernel
theorem dX8_takesYard_28 : decode cX8_takesYard 28 = .ok (.invokevirtual 110, 3) := by decide +kernel
theorem dX8_takesYard_31 : decode cX8_takesYard 31 = .ok (.ifCond .ne 5, 3) := by decide +kernel
theorem dX8_takesYard_34 : decode cX8_takesYard 34 = .ok (.iconst 0, 1) := by decide +kernel
theorem dX8_takesYard_35 : decode cX8_takesYard 35 = .ok (.ireturn, 1) := by decide +kernel
theorem dX8_takesYard_36 : decode cX8_takesYard 36 = .ok (.aload_n 0, 1) := by decide +kernel
theorem dX8_takesYard_37 : decode cX8_takesYard 37 = .ok (.getfield 30, 3) := by decide +kernel
theorem dX8_takesYard_40 : decode cX8_takesYard 40 = .ok (.aload_n 0, 1) := by decide +kernel
theorem dX8_takesYard_41 : decode cX8_takesYard 41 = .ok (.getfield 69, 3) := by decide +kernel
theorem dX8_takesYard_44 : decode cX8_takesYard 44 = .ok (.aload_n 0, 1) := by decide +kernel
theorem dX8_takesYard_45 : decode cX8_takesYard 45 = .ok (.getfield 107, 3) := by decide +kernel
theorem dX8_takesYard_48 : decode cX8_takesYard 48 = .ok (.iastore, 1) := by decide +kernel
theorem dX8_takesYard_49 : decode cX8_takesYard 49 = .ok (.aload_n 0, 1) := by decide +kernel
theorem dX8_takesYard_50 : decode cX8_takesYard 50 = .ok (.dup, 1) := by decide +kernel
theorem dX8_takesYard_51 : decode cX8_takesYard 51 = .ok (.getfield 69, 3) := by decide +kernel
theorem dX8_takesYard_54 : decode cX8_takesYard 54 = .ok (.iconst 1, 1) := by decide +kernel
theorem dX8_takesYard_55 : decode cX8_takesYard 55 = .ok (.iadd, 1) := by decide +kernel
theorem dX8_takesYard_56 : decode cX8_takesYard 56 = .ok (.putfield 69, 3) := by decide +kernel
theorem dX8_takesYard_59 : decode cX8_takesYard 59 = .ok (.iconst 1, 1) := by decide +kernel
theorem dX8_takesYard_60 : decode cX8_takesYard 60 = .ok (.ireturn, 1) := by decide +kernel
set_option maxRecDepth 20000 in
theorem ggX8_takesYards_X8_takesYard : GoodIn wsX8_takesYards wsX8_takesYard := goodIn_r _ [8, 9, 1, 10, 11, 12, 13, 14, 7, 15, 16, 17, 2, 3, 18, 19, 20, 21, 22, 23, 24, 25, 26, 27, 28, 29, 30, 31, 32, 33, 34, 35, 36, 37, 38, 39, 40, 41, 42, 43, 44, 45, 46, 47, 48, 49, 50, 51, 52, 53, 54, 55, 56, 57, 58, 59, 60, 61, 62, 63, 64] (by decide +kernel) (by decide +kernel)
set_option maxRecDepth 20000 in
theorem gX8_takesYards_X8_takesYard : GoodIn wsX8_takesYards (wsV RX8 113 RX8 yX8_takesYard wsX8_takesYard) := goodIn_app (goodIn_of _ (by decide +kernel)) ggX8_takesYards_X8_takesYard
set_option maxRecDepth 20000 in
theorem ggX8_takesYards_X8_here : GoodIn wsX8_takesYards wsX8_here := goodIn_r _ [21, 3, 2, 22, 23, 24, 7, 25, 26, 27, 37, 38, 39, 40, 41, 42, 43, 44, 45, 46, 47, 48, 49, 50, 51, 52, 53, 54, 55, 56, 57, 58, 59, 60, 61, 62, 63, 64] (by decide +kernel) (by decide +kernel)
set_option maxRecDepth 20000 in
theorem gX8_takesYards_X8_here : GoodIn wsX8_takesYards (wsV RX8 95 RX8 yX8_here wsX8_here) := goodIn_app (goodIn_of _ (by decide +kernel)) ggX8_takesYards_X8_here
set_option maxRecDepth 20000 in
theorem ggX8_takesYards_X8_fails : GoodIn wsX8_takesYards wsX8_fails := goodIn_r _ [34, 35, 36, 37, 38, 39, 40, 41, 42, 43, 44, 45, 46, 47, 48, 49, 50, 51, 52, 53, 54, 55, 56, 57, 58, 59, 60, 61, 62, 63, 64] (by decide +kernel) (by decide +kernel)
set_option maxRecDepth 20000 in
theorem gX8_takesYards_X8_fails : GoodIn wsX8_takesYards (wsV RX8 99 RX8 yX8_fails wsX8_fails) := goodIn_app (goodIn_of _ (by decide +kernel)) ggX8_takesYards_X8_fails
theorem dX8_takesYards_0 : decode cX8_takesYards 0 = .ok (.aload_n 0, 1) := by decide +kernel
theorem dX8_takesYards_1 : decode cX8_takesYards 1 = .ok (.invokevirtual 113, 3) := by decide +kernel
theorem dX8_takesYards_4 : decode cX8_takesYards 4 = .ok (.istore_n 1, 1) := by decide +kernel
theorem dX8_takesYards_5 : decode cX8_takesYards 5 = .ok (.iload_n 1, 1) := by decide +kernel
theorem dX8_takesYards_6 : decode cX8_takesYards 6 = .ok (.ifCond .eq 69, 3) := by decide +kernel
theorem dX8_takesYards_9 : decode cX8_takesYards 9 = .ok (.aload_n 0, 1) := by decide +kernel
theorem dX8_takesYards_10 : decode cX8_takesYards 10 = .ok (.invokevirtual 95, 3) := by decide +kernel
theorem dX8_takesYards_13 : decode cX8_takesYards 13 = .ok (.bipush 44, 2) := by decide +kernel
theorem dX8_takesYards_15 : decode cX8_takesYards 15 = .ok (.if_icmp .ne 60, 3) := by decide +kernel
theorem dX8_takesYards_18 : decode cX8_takesYards 18 = .ok (.aload_n 0, 1) := by decide +kernel
theorem dX8_takesYards_19 : decode cX8_takesYards 19 = .ok (.getfield 69, 3) := by decide +kernel
theorem dX8_takesYards_22 : decode cX8_takesYards 22 = .ok (.bipush 12, 2) := by decide +kernel
theorem dX8_takesYards_24 : decode cX8_takesYards 24 = .ok (.if_icmp .lt 15, 3) := by decide +kernel
theorem dX8_takesYards_27 : decode cX8_takesYards 27 = .ok (.aload_n 0, 1) := by decide +kernel
theorem dX8_takesYards_28 : decode cX8_takesYards 28 = .ok (.iconst 1, 1) := by decide +kernel
theorem dX8_takesYards_29 : decode cX8_takesYards 29 = .ok (.aload_n 0, 1) := by decide +kernel
theorem dX8_takesYards_30 : decode cX8_takesYards 30 = .ok (.getfield 92, 3) := by decide +kernel
theorem dX8_takesYards_33 : decode cX8_takesYards 33 = .ok (.invokevirtual 99, 3) := by decide +kernel
theorem dX8_takesYards_36 : decode cX8_takesYards 36 = .ok (.ifCond .eq 7, 3) := by decide +kernel
theorem dX8_takesYards_39 : decode cX8_takesYards 39 = .ok (.iconst 1, 1) := by decide +kernel
theorem dX8_takesYards_40 : decode cX8_takesYards 40 = .ok (.goto 4, 3) := by decide +kernel
theorem dX8_takesYards_43 : decode cX8_takesYards 43 = .ok (.iconst 0, 1) := by decide +kernel
theorem dX8_takesYards_44 : decode cX8_takesYards 44 = .ok (.istore_n 1, 1) := by decide +kernel
theorem dX8_takesYards_45 : decode cX8_takesYards 45 = .ok (.aload_n 0, 1) := by decide +kernel
theorem dX8_takesYards_46 : decode cX8_takesYards 46 = .ok (.dup, 1) := by decide +kernel
theorem dX8_takesYards_47 : decode cX8_takesYards 47 = .ok (.getfield 75, 3) := by decide +kernel
theorem dX8_takesYards_50 : decode cX8_takesYards 50 = .ok (.iconst 1, 1) := by decide +kernel
theorem dX8_takesYards_51 : decode cX8_takesYards 51 = .ok (.iadd, 1) := by decide +kernel
theorem dX8_takesYards_52 : decode cX8_takesYards 52 = .ok (.putfield 75, 3) := by decide +kernel
theorem dX8_takesYards_55 : decode cX8_takesYards 55 = .ok (.iload_n 1, 1) := by decide +kernel
theorem dX8_takesYards_56 : decode cX8_takesYards 56 = .ok (.ifCond .eq 14, 3) := by decide +kernel
theorem dX8_takesYards_59 : decode cX8_takesYards 59 = .ok (.aload_n 0, 1) := by decide +kernel
theorem dX8_takesYards_60 : decode cX8_takesYards 60 = .ok (.invokevirtual 113, 3) := by decide +kernel
theorem dX8_takesYards_63 : decode cX8_takesYards 63 = .ok (.ifCond .eq 7, 3) := by decide +kernel
theorem dX8_takesYards_66 : decode cX8_takesYards 66 = .ok (.iconst 1, 1) := by decide +kernel
theorem dX8_takesYards_67 : decode cX8_takesYards 67 = .ok (.goto 4, 3) := by decide +kernel
theorem dX8_takesYards_70 : decode cX8_takesYards 70 = .ok (.iconst 0, 1) := by decide +kernel
theorem dX8_takesYards_71 : decode cX8_takesYards 71 = .ok (.istore_n 1, 1) := by decide +kernel
theorem dX8_takesYards_72 : decode cX8_takesYards 72 = .ok (.goto (-67), 3) := by decide +kernel
theorem dX8_takesYards_75 : decode cX8_takesYards 75 = .ok (.iload_n 1, 1) := by decide +kernel
theorem dX8_takesYards_76 : decode cX8_takesYards 76 = .ok (.ireturn, 1) := by decide +kernel
set_option maxRecDepth 20000 in
theorem ggX8_takesClause_X8_here : GoodIn wsX8_takesClause wsX8_here := goodIn_r _ [8, 3, 2, 9, 10, 11, 7, 12, 13, 14, 51, 52, 53, 54, 55, 56, 57, 58, 59, 60, 61, 62, 63, 64, 65, 66, 67, 68, 69, 70, 71, 72, 73, 74, 75, 76, 77, 78] (by decide +kernel) (by decide +kernel)
set_option maxRecDepth 20000 in
theorem gX8_takesClause_X8_here : GoodIn wsX8_takesClause (wsV RX8 95 RX8 yX8_here wsX8_here) := goodIn_app (goodIn_of _ (by decide +kernel)) ggX8_takesClause_X8_here
set_option maxRecDepth 20000 in
theorem ggX8_takesClause_X8_fails : GoodIn wsX8_takesClause wsX8_fails := goodIn_r _ [18, 19, 20, 51, 52, 53, 54, 55, 56, 57, 58, 59, 60, 61, 62, 63, 64, 65, 66, 67, 68, 69, 70, 71, 72, 73, 74, 75, 76, 77, 78] (by decide +kernel) (by decide +kernel)
set_option maxRecDepth 20000 in
theorem gX8_takesClause_X8_fails : GoodIn wsX8_takesClause (wsV RX8 99 RX8 yX8_fails wsX8_fails) := goodIn_app (goodIn_of _ (by decide +kernel)) ggX8_takesClause_X8_fails
set_option maxRecDepth 20000 in
theorem ggX8_takesClause_X8_takesYards : GoodIn wsX8_takesClause wsX8_takesYards := goodIn_r _ [24, 25, 2, 3, 26, 27, 28, 7, 29, 30, 31, 32, 33, 34, 35, 36, 37, 38, 4, 5, 6, 8, 9, 10, 11, 12, 13, 14, 39, 40, 41, 15, 16, 17, 18, 19, 20, 51, 52, 53, 54, 55, 56, 57, 58, 59, 60, 61, 62, 63, 64, 65, 66, 67, 68, 69, 70, 71, 72, 73, 74, 75, 76, 77, 78] (by decide +kernel) (by decide +kernel)
set_option maxRecDepth 20000 in
theorem gX8_takesClause_X8_takesYards : GoodIn wsX8_takesClause (wsV RX8 117 RX8 yX8_takesYards wsX8_takesYards) := goodIn_app (goodIn_of _ (by decide +kernel)) ggX8_takesClause_X8_takesYards
set_option maxRecDepth 20000 in
theorem ggX8_takesClause_X8_tells : GoodIn wsX8_takesClause wsX8_tells := goodIn_r _ [45, 46, 31, 33, 34, 35, 7, 36, 37, 38, 2, 3, 4, 5, 6, 8, 9, 10, 11, 12, 13, 14, 39, 40, 41, 15, 16, 17, 18, 19, 20, 51, 52, 53, 54, 55, 56, 57, 58, 59, 60, 61, 62, 63, 64, 65, 66, 67, 68, 69, 70, 71, 72, 73, 74, 75, 76, 77, 78] (by decide +kernel) (by decide +kernel)
set_option maxRecDepth 20000 in
theorem gX8_takesClause_X8_tells : GoodIn wsX8_takesClause (wsV RX8 120 RX8 yX8_tells wsX8_tells) := goodIn_app (goodIn_of _ (by decide +kernel)) ggX8_takesClause_X8_tells
set_option maxRecDepth 20000 in
theorem ggX8_takesClause_X8_takes : GoodIn wsX8_takesClause wsX8_takes := goodIn_r _ [50, 2, 3, 4, 5, 6, 7, 8, 9, 10, 11, 12, 13, 14, 15, 16, 17, 18, 19, 20, 51, 52, 53, 54, 55, 56, 57, 58, 59, 60, 61, 62, 63, 64, 65, 66, 67, 68, 69, 70, 71, 72, 73, 74, 75, 76, 77, 78] (by decide +kernel) (by decide +kernel)
set_option maxRecDepth 20000 in
theorem gX8_takesClause_X8_takes : GoodIn wsX8_takesClause (wsV RX8 124 RX8 yX8_takes wsX8_takes) := goodIn_app (goodIn_of _ (by decide +kernel)) ggX8_takesClause_X8_takes
theorem dX8_takesClause_0 : decode cX8_takesClause 0 = .ok (.aload_n 0, 1) := by decide +kernel
theorem dX8_takesClause_1 : decode cX8_takesClause 1 = .ok (.invokevirtual 95, 3) := by decide +kernel
theorem dX8_takesClause_4 : decode cX8_takesClause 4 = .ok (.istore_n 1, 1) := by decide +kernel
theorem dX8_takesClause_5 : decode cX8_takesClause 5 = .ok (.iload_n 1, 1) := by decide +kernel
theorem dX8_takesClause_6 : decode cX8_takesClause 6 = .ok (.bipush 121, 2) := by decide +kernel
theorem dX8_takesClause_8 : decode cX8_takesClause 8 = .ok (.if_icmp .ne 7, 3) := by decide +kernel
theorem dX8_takesClause_11 : decode cX8_takesClause 11 = .ok (.iconst 1, 1) := by decide +kernel
theorem dX8_takesClause_12 : decode cX8_takesClause 12 = .ok (.goto 35, 3) := by decide +kernel
theorem dX8_takesClause_15 : decode cX8_takesClause 15 = .ok (.iload_n 1, 1) := by decide +kernel
theorem dX8_takesClause_16 : decode cX8_takesClause 16 = .ok (.bipush 98, 2) := by decide +kernel
theorem dX8_takesClause_18 : decode cX8_takesClause 18 = .ok (.if_icmp .ne 7, 3) := by decide +kernel
theorem dX8_takesClause_21 : decode cX8_takesClause 21 = .ok (.iconst 2, 1) := by decide +kernel
theorem dX8_takesClause_22 : decode cX8_takesClause 22 = .ok (.goto 25, 3) := by decide +kernel
theorem dX8_takesClause_25 : decode cX8_takesClause 25 = .ok (.iload_n 1, 1) := by decide +kernel
theorem dX8_takesClause_26 : decode cX8_takesClause 26 = .ok (.bipush 103, 2) := by decide +kernel
theorem dX8_takesClause_28 : decode cX8_takesClause 28 = .ok (.if_icmp .ne 7, 3) := by decide +kernel
theorem dX8_takesClause_31 : decode cX8_takesClause 31 = .ok (.iconst 4, 1) := by decide +kernel
theorem dX8_takesClause_32 : decode cX8_takesClause 32 = .ok (.goto 15, 3) := by decide +kernel
theorem dX8_takesClause_35 : decode cX8_takesClause 35 = .ok (.iload_n 1, 1) := by decide +kernel
theorem dX8_takesClause_36 : decode cX8_takesClause 36 = .ok (.bipush 99, 2) := by decide +kernel
theorem dX8_takesClause_38 : decode cX8_takesClause 38 = .ok (.if_icmp .ne 8, 3) := by decide +kernel
theorem dX8_takesClause_41 : decode cX8_takesClause 41 = .ok (.bipush 8, 2) := by decide +kernel
theorem dX8_takesClause_43 : decode cX8_takesClause 43 = .ok (.goto 4, 3) := by decide +kernel
theorem dX8_takesClause_46 : decode cX8_takesClause 46 = .ok (.iconst 0, 1) := by decide +kernel
theorem dX8_takesClause_47 : decode cX8_takesClause 47 = .ok (.istore_n 2, 1) := by decide +kernel
theorem dX8_takesClause_48 : decode cX8_takesClause 48 = .ok (.iload_n 2, 1) := by decide +kernel
theorem dX8_takesClause_49 : decode cX8_takesClause 49 = .ok (.ifCond .eq 15, 3) := by decide +kernel
theorem dX8_takesClause_52 : decode cX8_takesClause 52 = .ok (.aload_n 0, 1) := by decide +kernel
theorem dX8_takesClause_53 : decode cX8_takesClause 53 = .ok (.getfield 72, 3) := by decide +kernel
theorem dX8_takesClause_56 : decode cX8_takesClause 56 = .ok (.ifCond .ne 18, 3) := by decide +kernel
theorem dX8_takesClause_59 : decode cX8_takesClause 59 = .ok (.iload_n 2, 1) := by decide +kernel
theorem dX8_takesClause_60 : decode cX8_takesClause 60 = .ok (.iconst 1, 1) := by decide +kernel
theorem dX8_takesClause_61 : decode cX8_takesClause 61 = .ok (.if_icmp .le 13, 3) := by decide +kernel
theorem dX8_takesClause_64 : decode cX8_takesClause 64 = .ok (.aload_n 0, 1) := by decide +kernel
theorem dX8_takesClause_65 : decode cX8_takesClause 65 = .ok (.iconst 1, 1) := by decide +kernel
theorem dX8_takesClause_66 : decode cX8_takesClause 66 = .ok (.aload_n 0, 1) := by decide +kernel
theorem dX8_takesClause_67 : decode cX8_takesClause 67 = .ok (.getfield 92, 3) := by decide +kernel
theorem dX8_takesClause_70 : decode cX8_takesClause 70 = .ok (.invokevirtual 99, 3) := by decide +kernel
theorem dX8_takesClause_73 : decode cX8_takesClause 73 = .ok (.ireturn, 1) := by decide +kernel
theorem dX8_takesClause_74 : decode cX8_takesClause 74 = .ok (.aload_n 0, 1) := by decide +kernel
theorem dX8_takesClause_75 : decode cX8_takesClause 75 = .ok (.getfield 72, 3) := by decide +kernel
theorem dX8_takesClause_78 : decode cX8_takesClause 78 = .ok (.iload_n 2, 1) := by decide +kernel
theorem dX8_takesClause_79 : decode cX8_takesClause 79 = .ok (.iand, 1) := by decide +kernel
theorem dX8_takesClause_80 : decode cX8_takesClause 80 = .ok (.ifCond .eq 13, 3) := by decide +kernel
theorem dX8_takesClause_83 : decode cX8_takesClause 83 = .ok (.aload_n 0, 1) := by decide +kernel
theorem dX8_takesClause_84 : decode cX8_takesClause 84 = .ok (.iconst 3, 1) := by decide +kernel
theorem dX8_takesClause_85 : decode cX8_takesClause 85 = .ok (.aload_n 0, 1) := by decide +kernel
theorem dX8_takesClause_86 : decode cX8_takesClause 86 = .ok (.getfield 92, 3) := by decide +kernel
theorem dX8_takesClause_89 : decode cX8_takesClause 89 = .ok (.invokevirtual 99, 3) := by decide +kernel
theorem dX8_takesClause_92 : decode cX8_takesClause 92 = .ok (.ireturn, 1) := by decide +kernel
theorem dX8_takesClause_93 : decode cX8_takesClause 93 = .ok (.aload_n 0, 1) := by decide +kernel
theorem dX8_takesClause_94 : decode cX8_takesClause 94 = .ok (.dup, 1) := by decide +kernel
theorem dX8_takesClause_95 : decode cX8_takesClause 95 = .ok (.getfield 72, 3) := by decide +kernel
theorem dX8_takesClause_98 : decode cX8_takesClause 98 = .ok (.iload_n 2, 1) := by decide +kernel
theorem dX8_takesClause_99 : decode cX8_takesClause 99 = .ok (.ior, 1) := by decide +kernel
theorem dX8_takesClause_100 : decode cX8_takesClause 100 = .ok (.putfield 72, 3) := by decide +kernel
theorem dX8_takesClause_103 : decode cX8_takesClause 103 = .ok (.aload_n 0, 1) := by decide +kernel
theorem dX8_takesClause_104 : decode cX8_takesClause 104 = .ok (.dup, 1) := by decide +kernel
theorem dX8_takesClause_105 : decode cX8_takesClause 105 = .ok (.getfield 75, 3) := by decide +kernel
theorem dX8_takesClause_108 : decode cX8_takesClause 108 = .ok (.iconst 1, 1) := by decide +kernel
theorem dX8_takesClause_109 : decode cX8_takesClause 109 = .ok (.iadd, 1) := by decide +kernel
theorem dX8_takesClause_110 : decode cX8_takesClause 110 = .ok (.putfield 75, 3) := by decide +kernel
theorem dX8_takesClause_113 : decode cX8_takesClause 113 = .ok (.iload_n 1, 1) := by decide +kernel
theorem dX8_takesClause_114 : decode cX8_takesClause 114 = .ok (.lookupswitch 127 #[(98, 42), (103, 95), (121, 34)], 34) := by decide +kernel
theorem dX8_takesClause_148 : decode cX8_takesClause 148 = .ok (.aload_n 0, 1) := by decide +kernel
theorem dX8_takesClause_149 : decode cX8_takesClause 149 = .ok (.invokevirtual 117, 3) := by decide +kernel
theorem dX8_takesClause_152 : decode cX8_takesClause 152 = .ok (.istore_n 3, 1) := by decide +kernel
theorem dX8_takesClause_153 : decode cX8_takesClause 153 = .ok (.goto 131, 3) := by decide +kernel
theorem dX8_takesClause_156 : decode cX8_takesClause 156 = .ok (.aload_n 0, 1) := by decide +kernel
theorem dX8_takesClause_157 : decode cX8_takesClause 157 = .ok (.iconst 0, 1) := by decide +kernel
theorem dX8_takesClause_158 : decode cX8_takesClause 158 = .ok (.iconst 1, 1) := by decide +kernel
theorem dX8_takesClause_159 : decode cX8_takesClause 159 = .ok (.bipush 12, 2) := by decide +kernel
theorem dX8_takesClause_161 : decode cX8_takesClause 161 = .ok (.invokevirtual 120, 3) := by decide +kernel
theorem dX8_takesClause_164 : decode cX8_takesClause 164 = .ok (.ifCond .eq 40, 3) := by decide +kernel
theorem dX8_takesClause_167 : decode cX8_takesClause 167 = .ok (.aload_n 0, 1) := by decide +kernel
theorem dX8_takesClause_168 : decode cX8_takesClause 168 = .ok (.iconst 1, 1) := by decide +kernel
theorem dX8_takesClause_169 : decode cX8_takesClause 169 = .ok (.iconst 0, 1) := by decide +kernel
theorem dX8_takesClause_170 : decode cX8_takesClause 170 = .ok (.bipush 20, 2) := by decide +kernel
theorem dX8_takesClause_172 : decode cX8_takesClause 172 = .ok (.invokevirtual 120, 3) := by decide +kernel
theorem dX8_takesClause_175 : decode cX8_takesClause 175 = .ok (.ifCond .eq 29, 3) := by decide +kernel
theorem dX8_takesClause_178 : decode cX8_takesClause 178 = .ok (.aload_n 0, 1) := by decide +kernel
theorem dX8_takesClause_179 : decode cX8_takesClause 179 = .ok (.iconst 2, 1) := by decide +kernel
theorem dX8_takesClause_180 : decode cX8_takesClause 180 = .ok (.iconst 2, 1) := by decide +kernel
theorem dX8_takesClause_181 : decode cX8_takesClause 181 = .ok (.bipush 9, 2) := by decide +kernel
theorem dX8_takesClause_183 : decode cX8_takesClause 183 = .ok (.invokevirtual 120, 3) := by decide +kernel
theorem dX8_takesClause_186 : decode cX8_takesClause 186 = .ok (.ifCond .eq 18, 3) := by decide +kernel
theorem dX8_takesClause_189 : decode cX8_takesClause 189 = .ok (.aload_n 0, 1) := by decide +kernel
theorem dX8_takesClause_190 : decode cX8_takesClause 190 = .ok (.iconst 3, 1) := by decide +kernel
theorem dX8_takesClause_191 : decode cX8_takesClause 191 = .ok (.iconst 0, 1) := by decide +kernel
theorem dX8_takesClause_192 : decode cX8_takesClause 192 = .ok (.bipush 20, 2) := by decide +kernel
theorem dX8_takesClause_194 : decode cX8_takesClause 194 = .ok (.invokevirtual 120, 3) := by decide +kernel
theorem dX8_takesClause_197 : decode cX8_takesClause 197 = .ok (.ifCond .eq 7, 3) := by decide +kernel
theorem dX8_takesClause_200 : decode cX8_takesClause 200 = .ok (.iconst 1, 1) := by decide +kernel
theorem dX8_takesClause_201 : decode cX8_takesClause 201 = .ok (.goto 4, 3) := by decide +kernel
theorem dX8_takesClause_204 : decode cX8_takesClause 204 = .ok (.iconst 0, 1) := by decide +kernel
theorem dX8_takesClause_205 : decode cX8_takesClause 205 = .ok (.istore_n 3, 1) := by decide +kernel
theorem dX8_takesClause_206 : decode cX8_takesClause 206 = .ok (.goto 78, 3) := by decide +kernel
theorem dX8_takesClause_209 : decode cX8_takesClause 209 = .ok (.aload_n 0, 1) := by decide +kernel
theorem dX8_takesClause_210 : decode cX8_takesClause 210 = .ok (.iconst 4, 1) := by decide +kernel
theorem dX8_takesClause_211 : decode cX8_takesClause 211 = .ok (.iconst 1, 1) := by decide +kernel
theorem dX8_takesClause_212 : decode cX8_takesClause 212 = .ok (.sipush 999, 3) := by decide +kernel
theorem dX8_takesClause_215 : decode cX8_takesClause 215 = .ok (.invokevirtual 120, 3) := by decide +kernel
theorem dX8_takesClause_218 : decode cX8_takesClause 218 = .ok (.ifCond .eq 18, 3) := by decide +kernel
theorem dX8_takesClause_221 : decode cX8_takesClause 221 = .ok (.aload_n 0, 1) := by decide +kernel
theorem dX8_takesClause_222 : decode cX8_takesClause 222 = .ok (.iconst 5, 1) := by decide +kernel
theorem dX8_takesClause_223 : decode cX8_takesClause 223 = .ok (.iconst 0, 1) := by decide +kernel
theorem dX8_takesClause_224 : decode cX8_takesClause 224 = .ok (.bipush 99, 2) := by decide +kernel
theorem dX8_takesClause_226 : decode cX8_takesClause 226 = .ok (.invokevirtual 120, 3) := by decide +kernel
theorem dX8_takesClause_229 : decode cX8_takesClause 229 = .ok (.ifCond .eq 7, 3) := by decide +kernel
theorem dX8_takesClause_232 : decode cX8_takesClause 232 = .ok (.iconst 1, 1) := by decide +kernel
theorem dX8_takesClause_233 : decode cX8_takesClause 233 = .ok (.goto 4, 3) := by decide +kernel
theorem dX8_takesClause_236 : decode cX8_takesClause 236 = .ok (.iconst 0, 1) := by decide +kernel
theorem dX8_takesClause_237 : decode cX8_takesClause 237 = .ok (.istore_n 3, 1) := by decide +kernel
theorem dX8_takesClause_238 : decode cX8_takesClause 238 = .ok (.goto 46, 3) := by decide +kernel
theorem dX8_takesClause_241 : decode cX8_takesClause 241 = .ok (.aload_n 0, 1) := by decide +kernel
theorem dX8_takesClause_242 : decode cX8_takesClause 242 = .ok (.bipush 6, 2) := by decide +kernel
theorem dX8_takesClause_244 : decode cX8_takesClause 244 = .ok (.iconst 0, 1) := by decide +kernel
theorem dX8_takesClause_245 : decode cX8_takesClause 245 = .ok (.bipush 20, 2) := by decide +kernel
theorem dX8_takesClause_247 : decode cX8_takesClause 247 = .ok (.invokevirtual 120, 3) := by decide +kernel
theorem dX8_takesClause_250 : decode cX8_takesClause 250 = .ok (.ifCond .eq 32, 3) := by decide +kernel
theorem dX8_takesClause_253 : decode cX8_takesClause 253 = .ok (.aload_n 0, 1) := by decide +kernel
theorem dX8_takesClause_254 : decode cX8_takesClause 254 = .ok (.bipush 7, 2) := by decide +kernel
theorem dX8_takesClause_256 : decode cX8_takesClause 256 = .ok (.iconst 0, 1) := by decide +kernel
theorem dX8_takesClause_257 : decode cX8_takesClause 257 = .ok (.bipush 99, 2) := by decide +kernel
theorem dX8_takesClause_259 : decode cX8_takesClause 259 = .ok (.invokevirtual 120, 3) := by decide +kernel
theorem dX8_takesClause_262 : decode cX8_takesClause 262 = .ok (.ifCond .eq 20, 3) := by decide +kernel
theorem dX8_takesClause_265 : decode cX8_takesClause 265 = .ok (.aload_n 0, 1) := by decide +kernel
theorem dX8_takesClause_266 : decode cX8_takesClause 266 = .ok (.bipush 8, 2) := by decide +kernel
theorem dX8_takesClause_268 : decode cX8_takesClause 268 = .ok (.iconst 0, 1) := by decide +kernel
theorem dX8_takesClause_269 : decode cX8_takesClause 269 = .ok (.sipush 999, 3) := by decide +kernel
theorem dX8_takesClause_272 : decode cX8_takesClause 272 = .ok (.invokevirtual 120, 3) := by decide +kernel
theorem dX8_takesClause_275 : decode cX8_takesClause 275 = .ok (.ifCond .eq 7, 3) := by decide +kernel
theorem dX8_takesClause_278 : decode cX8_takesClause 278 = .ok (.iconst 1, 1) := by decide +kernel
theorem dX8_takesClause_279 : decode cX8_takesClause 279 = .ok (.goto 4, 3) := by decide +kernel
theorem dX8_takesClause_282 : decode cX8_takesClause 282 = .ok (.iconst 0, 1) := by decide +kernel
theorem dX8_takesClause_283 : decode cX8_takesClause 283 = .ok (.istore_n 3, 1) := by decide +kernel
theorem dX8_takesClause_284 : decode cX8_takesClause 284 = .ok (.iload_n 3, 1) := by decide +kernel
theorem dX8_takesClause_285 : decode cX8_takesClause 285 = .ok (.ifCond .eq 16, 3) := by decide +kernel
theorem dX8_takesClause_288 : decode cX8_takesClause 288 = .ok (.aload_n 0, 1) := by decide +kernel
theorem dX8_takesClause_289 : decode cX8_takesClause 289 = .ok (.bipush 59, 2) := by decide +kernel
theorem dX8_takesClause_291 : decode cX8_takesClause 291 = .ok (.invokevirtual 124, 3) := by decide +kernel
theorem dX8_takesClause_294 : decode cX8_takesClause 294 = .ok (.ifCond .eq 7, 3) := by decide +kernel
theorem dX8_takesClause_297 : decode cX8_takesClause 297 = .ok (.iconst 1, 1) := by decide +kernel
theorem dX8_takesClause_298 : decode cX8_takesClause 298 = .ok (.goto 4, 3) := by decide +kernel
theorem dX8_takesClause_301 : decode cX8_takesClause 301 = .ok (.iconst 0, 1) := by decide +kernel
theorem dX8_takesClause_302 : decode cX8_takesClause 302 = .ok (.ireturn, 1) := by decide +kernel
set_option maxRecDepth 20000 in
theorem ggX8_cut_X8_reads : GoodIn wsX8_cut wsX8_reads := goodIn_r _ [16, 8, 4, 17, 18, 2, 19, 64, 65, 66, 67, 68, 69, 70, 71, 72, 73, 74, 75, 76, 77, 78, 79, 80, 81, 82, 83, 84, 85, 86, 87, 88, 89, 90, 91] (by decide +kernel) (by decide +kernel)
set_option maxRecDepth 20000 in
theorem gX8_cut_X8_reads : GoodIn wsX8_cut (wsV RX8 57 RX8 yX8_reads wsX8_reads) := goodIn_app (goodIn_of _ (by decide +kernel)) ggX8_cut_X8_reads
set_option maxRecDepth 20000 in
theorem ggX8_cut_X8_here : GoodIn wsX8_cut wsX8_here := goodIn_r _ [23, 18, 24, 25, 26, 27, 15, 28, 1, 29, 64, 65, 66, 67, 68, 69, 70, 71, 72, 73, 74, 75, 76, 77, 78, 79, 80, 81, 82, 83, 84, 85, 86, 87, 88, 89, 90, 91] (by decide +kernel) (by decide +kernel)
set_option maxRecDepth 20000 in
theorem gX8_cut_X8_here : GoodIn wsX8_cut (wsV RX8 95 RX8 yX8_here wsX8_here) := goodIn_app (goodIn_of _ (by decide +kernel)) ggX8_cut_X8_here
set_option maxRecDepth 20000 in
theorem ggX8_cut_X8_takesClause : GoodIn wsX8_cut wsX8_takesClause := goodIn_r _ [33, 17, 24, 18, 20, 21, 22, 15, 23, 25, 26, 27, 28, 1, 29, 34, 35, 36, 37, 2, 19, 38, 39, 40, 41, 4, 42, 43, 44, 45, 6, 46, 7, 47, 48, 49, 50, 51, 52, 53, 54, 55, 56, 57, 58, 59, 8, 60, 61, 62, 63, 64, 65, 66, 67, 68, 69, 70, 71, 72, 73, 74, 75, 76, 77, 78, 79, 80, 81, 82, 83, 84, 85, 86, 87, 88, 89, 90, 91] (by decide +kernel) (by decide +kernel)
set_option maxRecDepth 20000 in
theorem gX8_cut_X8_takesClause : GoodIn wsX8_cut (wsV RX8 128 RX8 yX8_takesClause wsX8_takesClause) := goodIn_app (goodIn_of _ (by decide +kernel)) ggX8_cut_X8_takesClause
theorem dX8_cut_0 : decode cX8_cut 0 = .ok (.aload_n 0, 1) := by decide +kernel
theorem dX8_cut_1 : decode cX8_cut 1 = .ok (.invokevirtual 57, 3) := by decide +kernel
theorem dX8_cut_4 : decode cX8_cut 4 = .ok (.iconst 1, 1) := by decide +kernel
theorem dX8_cut_5 : decode cX8_cut 5 = .ok (.istore_n 1, 1) := by decide +kernel
theorem dX8_cut_6 : decode cX8_cut 6 = .ok (.iload_n 1, 1) := by decide +kernel
theorem dX8_cut_7 : decode cX8_cut 7 = .ok (.ifCond .eq 19, 3) := by decide +kernel
theorem dX8_cut_10 : decode cX8_cut 10 = .ok (.aload_n 0, 1) := by decide +kernel
theorem dX8_cut_11 : decode cX8_cut 11 = .ok (.invokevirtual 95, 3) := by decide +kernel
theorem dX8_cut_14 : decode cX8_cut 14 = .ok (.iconst (-1), 1) := by decide +kernel
theorem dX8_cut_15 : decode cX8_cut 15 = .ok (.if_icmp .eq 11, 3) := by decide +kernel
theorem dX8_cut_18 : decode cX8_cut 18 = .ok (.aload_n 0, 1) := by decide +kernel
theorem dX8_cut_19 : decode cX8_cut 19 = .ok (.invokevirtual 128, 3) := by decide +kernel
theorem dX8_cut_22 : decode cX8_cut 22 = .ok (.istore_n 1, 1) := by decide +kernel
theorem dX8_cut_23 : decode cX8_cut 23 = .ok (.goto (-17), 3) := by decide +kernel
theorem dX8_cut_26 : decode cX8_cut 26 = .ok (.aload_n 0, 1) := by decide +kernel
theorem dX8_cut_27 : decode cX8_cut 27 = .ok (.iconst 0, 1) := by decide +kernel
theorem dX8_cut_28 : decode cX8_cut 28 = .ok (.putfield 84, 3) := by decide +kernel
theorem dX8_cut_31 : decode cX8_cut 31 = .ok (.iload_n 1, 1) := by decide +kernel
theorem dX8_cut_32 : decode cX8_cut 32 = .ok (.ifCond .ne 11, 3) := by decide +kernel
theorem dX8_cut_35 : decode cX8_cut 35 = .ok (.bipush (-10), 2) := by decide +kernel
theorem dX8_cut_37 : decode cX8_cut 37 = .ok (.aload_n 0, 1) := by decide +kernel
theorem dX8_cut_38 : decode cX8_cut 38 = .ok (.getfield 78, 3) := by decide +kernel
theorem dX8_cut_41 : decode cX8_cut 41 = .ok (.isub, 1) := by decide +kernel
theorem dX8_cut_42 : decode cX8_cut 42 = .ok (.ireturn, 1) := by decide +kernel
theorem dX8_cut_43 : decode cX8_cut 43 = .ok (.aload_n 0, 1) := by decide +kernel
theorem dX8_cut_44 : decode cX8_cut 44 = .ok (.getfield 7, 3) := by decide +kernel
theorem dX8_cut_47 : decode cX8_cut 47 = .ok (.bipush 50, 2) := by decide +kernel
theorem dX8_cut_49 : decode cX8_cut 49 = .ok (.iaload, 1) := by decide +kernel
theorem dX8_cut_50 : decode cX8_cut 50 = .ok (.istore_n 2, 1) := by decide +kernel
theorem dX8_cut_51 : decode cX8_cut 51 = .ok (.iconst 0, 1) := by decide +kernel
theorem dX8_cut_52 : decode cX8_cut 52 = .ok (.istore_n 3, 1) := by decide +kernel
theorem dX8_cut_53 : decode cX8_cut 53 = .ok (.iload_n 3, 1) := by decide +kernel
theorem dX8_cut_54 : decode cX8_cut 54 = .ok (.bipush 51, 2) := by decide +kernel
theorem dX8_cut_56 : decode cX8_cut 56 = .ok (.if_icmp .ge 16, 3) := by decide +kernel
theorem dX8_cut_59 : decode cX8_cut 59 = .ok (.aload_n 0, 1) := by decide +kernel
theorem dX8_cut_60 : decode cX8_cut 60 = .ok (.getfield 7, 3) := by decide +kernel
theorem dX8_cut_63 : decode cX8_cut 63 = .ok (.iload_n 3, 1) := by decide +kernel
theorem dX8_cut_64 : decode cX8_cut 64 = .ok (.iconst 0, 1) := by decide +kernel
theorem dX8_cut_65 : decode cX8_cut 65 = .ok (.iastore, 1) := by decide +kernel
theorem dX8_cut_66 : decode cX8_cut 66 = .ok (.iinc 3 1, 3) := by decide +kernel
theorem dX8_cut_69 : decode cX8_cut 69 = .ok (.goto (-16), 3) := by decide +kernel
theorem dX8_cut_72 : decode cX8_cut 72 = .ok (.aload_n 0, 1) := by decide +kernel
theorem dX8_cut_73 : decode cX8_cut 73 = .ok (.getfield 7, 3) := by decide +kernel
theorem dX8_cut_76 : decode cX8_cut 76 = .ok (.bipush 50, 2) := by decide +kernel
theorem dX8_cut_78 : decode cX8_cut 78 = .ok (.iload_n 2, 1) := by decide +kernel
theorem dX8_cut_79 : decode cX8_cut 79 = .ok (.iastore, 1) := by decide +kernel
theorem dX8_cut_80 : decode cX8_cut 80 = .ok (.aload_n 0, 1) := by decide +kernel
theorem dX8_cut_81 : decode cX8_cut 81 = .ok (.getfield 7, 3) := by decide +kernel
theorem dX8_cut_84 : decode cX8_cut 84 = .ok (.bipush 48, 2) := by decide +kernel
theorem dX8_cut_86 : decode cX8_cut 86 = .ok (.iconst 4, 1) := by decide +kernel
theorem dX8_cut_87 : decode cX8_cut 87 = .ok (.iastore, 1) := by decide +kernel
theorem dX8_cut_88 : decode cX8_cut 88 = .ok (.aload_n 0, 1) := by decide +kernel
theorem dX8_cut_89 : decode cX8_cut 89 = .ok (.aload_n 0, 1) := by decide +kernel
theorem dX8_cut_90 : decode cX8_cut 90 = .ok (.getfield 69, 3) := by decide +kernel
theorem dX8_cut_93 : decode cX8_cut 93 = .ok (.putfield 60, 3) := by decide +kernel
theorem dX8_cut_96 : decode cX8_cut 96 = .ok (.iconst 0, 1) := by decide +kernel
theorem dX8_cut_97 : decode cX8_cut 97 = .ok (.istore_n 3, 1) := by decide +kernel
theorem dX8_cut_98 : decode cX8_cut 98 = .ok (.iload_n 3, 1) := by decide +kernel
theorem dX8_cut_99 : decode cX8_cut 99 = .ok (.aload_n 0, 1) := by decide +kernel
theorem dX8_cut_100 : decode cX8_cut 100 = .ok (.getfield 60, 3) := by decide +kernel
theorem dX8_cut_103 : decode cX8_cut 103 = .ok (.if_icmp .ge 38, 3) := by decide +kernel
theorem dX8_cut_106 : decode cX8_cut 106 = .ok (.aload_n 0, 1) := by decide +kernel
theorem dX8_cut_107 : decode cX8_cut 107 = .ok (.getfield 7, 3) := by decide +kernel
theorem dX8_cut_110 : decode cX8_cut 110 = .ok (.bipush 12, 2) := by decide +kernel
theorem dX8_cut_112 : decode cX8_cut 112 = .ok (.iload_n 3, 1) := by decide +kernel
theorem dX8_cut_113 : decode cX8_cut 113 = .ok (.iadd, 1) := by decide +kernel
theorem dX8_cut_114 : decode cX8_cut 114 = .ok (.aload_n 0, 1) := by decide +kernel
theorem dX8_cut_115 : decode cX8_cut 115 = .ok (.getfield 27, 3) := by decide +kernel
theorem dX8_cut_118 : decode cX8_cut 118 = .ok (.iload_n 3, 1) := by decide +kernel
theorem dX8_cut_119 : decode cX8_cut 119 = .ok (.iaload, 1) := by decide +kernel
theorem dX8_cut_120 : decode cX8_cut 120 = .ok (.iastore, 1) := by decide +kernel
theorem dX8_cut_121 : decode cX8_cut 121 = .ok (.aload_n 0, 1) := by decide +kernel
theorem dX8_cut_122 : decode cX8_cut 122 = .ok (.getfield 7, 3) := by decide +kernel
theorem dX8_cut_125 : decode cX8_cut 125 = .ok (.iconst 0, 1) := by decide +kernel
theorem dX8_cut_126 : decode cX8_cut 126 = .ok (.iload_n 3, 1) := by decide +kernel
theorem dX8_cut_127 : decode cX8_cut 127 = .ok (.iadd, 1) := by decide +kernel
theorem dX8_cut_128 : decode cX8_cut 128 = .ok (.aload_n 0, 1) := by decide +kernel
theorem dX8_cut_129 : decode cX8_cut 129 = .ok (.getfield 30, 3) := by decide +kernel
theorem dX8_cut_132 : decode cX8_cut 132 = .ok (.iload_n 3, 1) := by decide +kernel
theorem dX8_cut_133 : decode cX8_cut 133 = .ok (.iaload, 1) := by decide +kernel
theorem dX8_cut_134 : decode cX8_cut 134 = .ok (.iastore, 1) := by decide +kernel
theorem dX8_cut_135 : decode cX8_cut 135 = .ok (.iinc 3 1, 3) := by decide +kernel
theorem dX8_cut_138 : decode cX8_cut 138 = .ok (.goto (-40), 3) := by decide +kernel
theorem dX8_cut_141 : decode cX8_cut 141 = .ok (.iconst 0, 1) := by decide +kernel
theorem dX8_cut_142 : decode cX8_cut 142 = .ok (.istore_n 3, 1) := by decide +kernel
theorem dX8_cut_143 : decode cX8_cut 143 = .ok (.iload_n 3, 1) := by decide +kernel
theorem dX8_cut_144 : decode cX8_cut 144 = .ok (.bipush 9, 2) := by decide +kernel
theorem dX8_cut_146 : decode cX8_cut 146 = .ok (.if_icmp .ge 24, 3) := by decide +kernel
theorem dX8_cut_149 : decode cX8_cut 149 = .ok (.aload_n 0, 1) := by decide +kernel
theorem dX8_cut_150 : decode cX8_cut 150 = .ok (.getfield 13, 3) := by decide +kernel
theorem dX8_cut_153 : decode cX8_cut 153 = .ok (.iload_n 3, 1) := by decide +kernel
theorem dX8_cut_154 : decode cX8_cut 154 = .ok (.aload_n 0, 1) := by decide +kernel
theorem dX8_cut_155 : decode cX8_cut 155 = .ok (.getfield 13, 3) := by decide +kernel
theorem dX8_cut_158 : decode cX8_cut 158 = .ok (.bipush 9, 2) := by decide +kernel
theorem dX8_cut_160 : decode cX8_cut 160 = .ok (.iload_n 3, 1) := by decide +kernel
theorem dX8_cut_161 : decode cX8_cut 161 = .ok (.iadd, 1) := by decide +kernel
theorem dX8_cut_162 : decode cX8_cut 162 = .ok (.iaload, 1) := by decide +kernel
theorem dX8_cut_163 : decode cX8_cut 163 = .ok (.iastore, 1) := by decide +kernel
theorem dX8_cut_164 : decode cX8_cut 164 = .ok (.iinc 3 1, 3) := by decide +kernel
theorem dX8_cut_167 : decode cX8_cut 167 = .ok (.goto (-24), 3) := by decide +kernel
theorem dX8_cut_170 : decode cX8_cut 170 = .ok (.aload_n 0, 1) := by decide +kernel
theorem dX8_cut_171 : decode cX8_cut 171 = .ok (.getfield 16, 3) := by decide +kernel
theorem dX8_cut_174 : decode cX8_cut 174 = .ok (.iconst 0, 1) := by decide +kernel
theorem dX8_cut_175 : decode cX8_cut 175 = .ok (.iconst 0, 1) := by decide +kernel
theorem dX8_cut_176 : decode cX8_cut 176 = .ok (.bastore, 1) := by decide +kernel
theorem dX8_cut_177 : decode cX8_cut 177 = .ok (.aload_n 0, 1) := by decide +kernel
theorem dX8_cut_178 : decode cX8_cut 178 = .ok (.getfield 16, 3) := by decide +kernel
theorem dX8_cut_181 : decode cX8_cut 181 = .ok (.iconst 1, 1) := by decide +kernel
theorem dX8_cut_182 : decode cX8_cut 182 = .ok (.iconst 0, 1) := by decide +kernel
theorem dX8_cut_183 : decode cX8_cut 183 = .ok (.bastore, 1) := by decide +kernel
theorem dX8_cut_184 : decode cX8_cut 184 = .ok (.aload_n 0, 1) := by decide +kernel
theorem dX8_cut_185 : decode cX8_cut 185 = .ok (.iconst 0, 1) := by decide +kernel
theorem dX8_cut_186 : decode cX8_cut 186 = .ok (.putfield 131, 3) := by decide +kernel
theorem dX8_cut_189 : decode cX8_cut 189 = .ok (.aload_n 0, 1) := by decide +kernel
theorem dX8_cut_190 : decode cX8_cut 190 = .ok (.iconst 0, 1) := by decide +kernel
theorem dX8_cut_191 : decode cX8_cut 191 = .ok (.putfield 134, 3) := by decide +kernel
theorem dX8_cut_194 : decode cX8_cut 194 = .ok (.aload_n 0, 1) := by decide +kernel
theorem dX8_cut_195 : decode cX8_cut 195 = .ok (.getfield 60, 3) := by decide +kernel
theorem dX8_cut_198 : decode cX8_cut 198 = .ok (.ireturn, 1) := by decide +kernel
theorem dX8_fault_0 : decode cX8_fault 0 = .ok (.aload_n 0, 1) := by decide +kernel
theorem dX8_fault_1 : decode cX8_fault 1 = .ok (.getfield 23, 3) := by decide +kernel
theorem dX8_fault_4 : decode cX8_fault 4 = .ok (.ireturn, 1) := by decide +kernel
theorem dX8_swayOf_0 : decode cX8_swayOf 0 = .ok (.aload_n 0, 1) := by decide +kernel
theorem dX8_swayOf_1 : decode cX8_swayOf 1 = .ok (.getfield 13, 3) := by decide +kernel
theorem dX8_swayOf_4 : decode cX8_swayOf 4 = .ok (.iconst 1, 1) := by decide +kernel
theorem dX8_swayOf_5 : decode cX8_swayOf 5 = .ok (.iaload, 1) := by decide +kernel
theorem dX8_swayOf_6 : decode cX8_swayOf 6 = .ok (.iload_n 1, 1) := by decide +kernel
theorem dX8_swayOf_7 : decode cX8_swayOf 7 = .ok (.if_icmp .le 14, 3) := by decide +kernel
theorem dX8_swayOf_10 : decode cX8_swayOf 10 = .ok (.aload_n 0, 1) := by decide +kernel
theorem dX8_swayOf_11 : decode cX8_swayOf 11 = .ok (.getfield 13, 3) := by decide +kernel
theorem dX8_swayOf_14 : decode cX8_swayOf 14 = .ok (.iconst 1, 1) := by decide +kernel
theorem dX8_swayOf_15 : decode cX8_swayOf 15 = .ok (.iaload, 1) := by decide +kernel
theorem dX8_swayOf_16 : decode cX8_swayOf 16 = .ok (.iload_n 1, 1) := by decide +kernel
theorem dX8_swayOf_17 : decode cX8_swayOf 17 = .ok (.isub, 1) := by decide +kernel
theorem dX8_swayOf_18 : decode cX8_swayOf 18 = .ok (.goto 4, 3) := by decide +kernel
theorem dX8_swayOf_21 : decode cX8_swayOf 21 = .ok (.iconst 0, 1) := by decide +kernel
theorem dX8_swayOf_22 : decode cX8_swayOf 22 = .ok (.istore_n 3, 1) := by decide +kernel
theorem dX8_swayOf_23 : decode cX8_swayOf 23 = .ok (.iload_n 2, 1) := by decide +kernel
theorem dX8_swayOf_24 : decode cX8_swayOf 24 = .ok (.aload_n 0, 1) := by decide +kernel
theorem dX8_swayOf_25 : decode cX8_swayOf 25 = .ok (.getfield 13, 3) := by decide +kernel
theorem dX8_swayOf_28 : decode cX8_swayOf 28 = .ok (.iconst 2, 1) := by decide +kernel
theorem dX8_swayOf_29 : decode cX8_swayOf 29 = .ok (.iaload, 1) := by decide +kernel
theorem dX8_swayOf_30 : decode cX8_swayOf 30 = .ok (.if_icmp .le 14, 3) := by decide +kernel
theorem dX8_swayOf_33 : decode cX8_swayOf 33 = .ok (.iload_n 2, 1) := by decide +kernel
theorem dX8_swayOf_34 : decode cX8_swayOf 34 = .ok (.aload_n 0, 1) := by decide +kernel
theorem dX8_swayOf_35 : decode cX8_swayOf 35 = .ok (.getfield 13, 3) := by decide +kernel
theorem dX8_swayOf_38 : decode cX8_swayOf 38 = .ok (.iconst 2, 1) := by decide +kernel
theorem dX8_swayOf_39 : decode cX8_swayOf 39 = .ok (.iaload, 1) := by decide +kernel
theorem dX8_swayOf_40 : decode cX8_swayOf 40 = .ok (.isub, 1) := by decide +kernel
theorem dX8_swayOf_41 : decode cX8_swayOf 41 = .ok (.goto 11, 3) := by decide +kernel
theorem dX8_swayOf_44 : decode cX8_swayOf 44 = .ok (.aload_n 0, 1) := by decide +kernel
theorem dX8_swayOf_45 : decode cX8_swayOf 45 = .ok (.getfield 13, 3) := by decide +kernel
theorem dX8_swayOf_48 : decode cX8_swayOf 48 = .ok (.iconst 2, 1) := by decide +kernel
theorem dX8_swayOf_49 : decode cX8_swayOf 49 = .ok (.iaload, 1) := by decide +kernel
theorem dX8_swayOf_50 : decode cX8_swayOf 50 = .ok (.iload_n 2, 1) := by decide +kernel
theorem dX8_swayOf_51 : decode cX8_swayOf 51 = .ok (.isub, 1) := by decide +kernel
theorem dX8_swayOf_52 : decode cX8_swayOf 52 = .ok (.istore 4, 2) := by decide +kernel
theorem dX8_swayOf_54 : decode cX8_swayOf 54 = .ok (.iload 4, 2) := by decide +kernel
theorem dX8_swayOf_56 : decode cX8_swayOf 56 = .ok (.ifCond .ne 9, 3) := by decide +kernel
theorem dX8_swayOf_59 : decode cX8_swayOf 59 = .ok (.iconst 3, 1) := by decide +kernel
theorem dX8_swayOf_60 : decode cX8_swayOf 60 = .ok (.iload_n 3, 1) := by decide +kernel
theorem dX8_swayOf_61 : decode cX8_swayOf 61 = .ok (.imul, 1) := by decide +kernel
theorem dX8_swayOf_62 : decode cX8_swayOf 62 = .ok (.goto 16, 3) := by decide +kernel
theorem dX8_swayOf_65 : decode cX8_swayOf 65 = .ok (.iload 4, 2) := by decide +kernel
theorem dX8_swayOf_67 : decode cX8_swayOf 67 = .ok (.iconst 1, 1) := by decide +kernel
theorem dX8_swayOf_68 : decode cX8_swayOf 68 = .ok (.if_icmp .ne 7, 3) := by decide +kernel
theorem dX8_swayOf_71 : decode cX8_swayOf 71 = .ok (.iload_n 3, 1) := by decide +kernel
theorem dX8_swayOf_72 : decode cX8_swayOf 72 = .ok (.goto 6, 3) := by decide +kernel
theorem dX8_swayOf_75 : decode cX8_swayOf 75 = .ok (.iload_n 3, 1) := by decide +kernel
theorem dX8_swayOf_76 : decode cX8_swayOf 76 = .ok (.iconst 3, 1) := by decide +kernel
theorem dX8_swayOf_77 : decode cX8_swayOf 77 = .ok (.idiv, 1) := by decide +kernel
theorem dX8_swayOf_78 : decode cX8_swayOf 78 = .ok (.iconst 2, 1) := by decide +kernel
theorem dX8_swayOf_79 : decode cX8_swayOf 79 = .ok (.iload_n 1, 1) := by decide +kernel
theorem dX8_swayOf_80 : decode cX8_swayOf 80 = .ok (.imul, 1) := by decide +kernel
theorem dX8_swayOf_81 : decode cX8_swayOf 81 = .ok (.isub, 1) := by decide +kernel
theorem dX8_swayOf_82 : decode cX8_swayOf 82 = .ok (.istore 5, 2) := by decide +kernel
theorem dX8_swayOf_84 : decode cX8_swayOf 84 = .ok (.iload 5, 2) := by decide +kernel
theorem dX8_swayOf_86 : decode cX8_swayOf 86 = .ok (.ifCond .ge 7, 3) := by decide +kernel
theorem dX8_swayOf_89 : decode cX8_swayOf 89 = .ok (.iconst 0, 1) := by decide +kernel
theorem dX8_swayOf_90 : decode cX8_swayOf 90 = .ok (.goto 5, 3) := by decide +kernel
theorem dX8_swayOf_93 : decode cX8_swayOf 93 = .ok (.iload 5, 2) := by decide +kernel
theorem dX8_swayOf_95 : decode cX8_swayOf 95 = .ok (.ireturn, 1) := by decide +kernel
set_option maxRecDepth 20000 in
theorem ggX8_forceNow_X8_swayOf : GoodIn wsX8_forceNow wsX8_swayOf := goodIn_r _ [7, 1, 8, 9, 10, 11, 12, 13, 14, 15, 16, 17, 18, 19, 20, 21, 22, 23, 24, 25, 26, 27, 28, 29, 30, 31, 32, 33, 34, 35] (by decide +kernel) (by decide +kernel)
set_option maxRecDepth 20000 in
theorem gX8_forceNow_X8_swayOf : GoodIn wsX8_forceNow (wsV RX8 137 RX8 yX8_swayOf wsX8_swayOf) := goodIn_app (goodIn_of _ (by decide +kernel)) ggX8_forceNow_X8_swayOf
theorem dX8_forceNow_0 : decode cX8_forceNow 0 = .ok (.iconst 4, 1) := by decide +kernel
theorem dX8_forceNow_1 : decode cX8_forceNow 1 = .ok (.aload_n 0, 1) := by decide +kernel
theorem dX8_forceNow_2 : decode cX8_forceNow 2 = .ok (.getfield 13, 3) := by decide +kernel
theorem dX8_forceNow_5 : decode cX8_forceNow 5 = .ok (.iconst 0, 1) := by decide +kernel
theorem dX8_forceNow_6 : decode cX8_forceNow 6 = .ok (.iaload, 1) := by decide +kernel
theorem dX8_forceNow_7 : decode cX8_forceNow 7 = .ok (.imul, 1) := by decide +kernel
theorem dX8_forceNow_8 : decode cX8_forceNow 8 = .ok (.aload_n 0, 1) := by decide +kernel
theorem dX8_forceNow_9 : decode cX8_forceNow 9 = .ok (.aload_n 0, 1) := by decide +kernel
theorem dX8_forceNow_10 : decode cX8_forceNow 10 = .ok (.getfield 13, 3) := by decide +kernel
theorem dX8_forceNow_13 : decode cX8_forceNow 13 = .ok (.iconst 3, 1) := by decide +kernel
theorem dX8_forceNow_14 : decode cX8_forceNow 14 = .ok (.iaload, 1) := by decide +kernel
theorem dX8_forceNow_15 : decode cX8_forceNow 15 = .ok (.aload_n 0, 1) := by decide +kernel
theorem dX8_forceNow_16 : decode cX8_forceNow 16 = .ok (.getfield 7, 3) := by decide +kernel
theorem dX8_forceNow_19 : decode cX8_forceNow 19 = .ok (.bipush 48, 2) := by decide +kernel
theorem dX8_forceNow_21 : decode cX8_forceNow 21 = .ok (.iaload, 1) := by decide +kernel
theorem dX8_forceNow_22 : decode cX8_forceNow 22 = .ok (.invokevirtual 137, 3) := by decide +kernel
theorem dX8_forceNow_25 : decode cX8_forceNow 25 = .ok (.iadd, 1) := by decide +kernel
theorem dX8_forceNow_26 : decode cX8_forceNow 26 = .ok (.ireturn, 1) := by decide +kernel
theorem dX8_openSet_0 : decode cX8_openSet 0 = .ok (.iconst 0, 1) := by decide +kernel
theorem dX8_openSet_1 : decode cX8_openSet 1 = .ok (.istore_n 1, 1) := by decide +kernel
theorem dX8_openSet_2 : decode cX8_openSet 2 = .ok (.iconst 0, 1) := by decide +kernel
theorem dX8_openSet_3 : decode cX8_openSet 3 = .ok (.istore_n 2, 1) := by decide +kernel
theorem dX8_openSet_4 : decode cX8_openSet 4 = .ok (.iload_n 2, 1) := by decide +kernel
theorem dX8_openSet_5 : decode cX8_openSet 5 = .ok (.aload_n 0, 1) := by decide +kernel
theorem dX8_openSet_6 : decode cX8_openSet 6 = .ok (.getfield 60, 3) := by decide +kernel
theorem dX8_openSet_9 : decode cX8_openSet 9 = .ok (.if_icmp .ge 23, 3) := by decide +kernel
theorem dX8_openSet_12 : decode cX8_openSet 12 = .ok (.iload_n 1, 1) := by decide +kernel
theorem dX8_openSet_13 : decode cX8_openSet 13 = .ok (.aload_n 0, 1) := by decide +kernel
theorem dX8_openSet_14 : decode cX8_openSet 14 = .ok (.getfield 7, 3) := by decide +kernel
theorem dX8_openSet_17 : decode cX8_openSet 17 = .ok (.bipush 36, 2) := by decide +kernel
theorem dX8_openSet_19 : decode cX8_openSet 19 = .ok (.iload_n 2, 1) := by decide +kernel
theorem dX8_openSet_20 : decode cX8_openSet 20 = .ok (.iadd, 1) := by decide +kernel
theorem dX8_openSet_21 : decode cX8_openSet 21 = .ok (.iaload, 1) := by decide +kernel
theorem dX8_openSet_22 : decode cX8_openSet 22 = .ok (.iload_n 2, 1) := by decide +kernel
theorem dX8_openSet_23 : decode cX8_openSet 23 = .ok (.ishl, 1) := by decide +kernel
theorem dX8_openSet_24 : decode cX8_openSet 24 = .ok (.ior, 1) := by decide +kernel
theorem dX8_openSet_25 : decode cX8_openSet 25 = .ok (.istore_n 1, 1) := by decide +kernel
theorem dX8_openSet_26 : decode cX8_openSet 26 = .ok (.iinc 2 1, 3) := by decide +kernel
theorem dX8_openSet_29 : decode cX8_openSet 29 = .ok (.goto (-25), 3) := by decide +kernel
theorem dX8_openSet_32 : decode cX8_openSet 32 = .ok (.iload_n 1, 1) := by decide +kernel
theorem dX8_openSet_33 : decode cX8_openSet 33 = .ok (.ireturn, 1) := by decide +kernel
set_option maxRecDepth 20000 in
theorem ggX8_told_X8_swayOf : GoodIn wsX8_told wsX8_swayOf := goodIn_r _ [13, 4, 25, 26, 27, 28, 29, 30, 31, 32, 33, 34, 35, 36, 37, 38, 39, 40, 41, 42, 43, 44, 45, 46, 47, 48, 49, 50, 51, 52] (by decide +kernel) (by decide +kernel)
set_option maxRecDepth 20000 in
theorem gX8_told_X8_swayOf : GoodIn wsX8_told (wsV RX8 137 RX8 yX8_swayOf wsX8_swayOf) := goodIn_app (goodIn_of _ (by decide +kernel)) ggX8_told_X8_swayOf
set_option maxRecDepth 20000 in
theorem ggX8_told_X8_forceNow : GoodIn wsX8_told wsX8_forceNow := goodIn_r _ [17, 4, 3, 9, 10, 11, 12, 13, 25, 26, 27, 28, 29, 30, 31, 32, 33, 34, 35, 36, 37, 38, 39, 40, 41, 42, 43, 44, 45, 46, 47, 48, 49, 50, 51, 52] (by decide +kernel) (by decide +kernel)
set_option maxRecDepth 20000 in
theorem gX8_told_X8_forceNow : GoodIn wsX8_told (wsV RX8 141 RX8 yX8_forceNow wsX8_forceNow) := goodIn_app (goodIn_of _ (by decide +kernel)) ggX8_told_X8_forceNow
set_option maxRecDepth 20000 in
theorem ggX8_told_X8_openSet : GoodIn wsX8_told wsX8_openSet := goodIn_r _ [21, 1, 3, 25, 26, 27, 28, 29, 30, 31, 32, 33, 34, 35, 36, 37, 38, 39, 40, 41, 42, 43, 44, 45, 46, 47, 48, 49, 50, 51, 52] (by decide +kernel) (by decide +kernel)
set_option maxRecDepth 20000 in
theorem gX8_told_X8_openSet : GoodIn wsX8_told (wsV RX8 144 RX8 yX8_openSet wsX8_openSet) := goodIn_app (goodIn_of _ (by decide +kernel)) ggX8_told_X8_openSet
set_option maxRecDepth 20000 in
theorem ggX8_told_X8_in : GoodIn wsX8_told wsX8_in := goodIn_r _ [24] (by decide +kernel) (by decide +kernel)
set_option maxRecDepth 20000 in
theorem gX8_told_X8_in : GoodIn wsX8_told (va_wsS RX8 63 yX8_in wsX8_in) := goodIn_app (goodIn_of _ (by decide +kernel)) ggX8_told_X8_in
theorem dX8_told_0 : decode cX8_told 0 = .ok (.iload_n 1, 1) := by decide +kernel
theorem dX8_told_1 : decode cX8_told 1 = .ok (.tableswitch 151 0 17 #[87, 151, 151, 151, 151, 151, 151, 151, 151, 151, 92, 97, 105, 113, 131, 136, 141, 146], 87) := by decide +kernel
theorem dX8_told_88 : decode cX8_told 88 = .ok (.aload_n 0, 1) := by decide +kernel
theorem dX8_told_89 : decode cX8_told 89 = .ok (.getfield 60, 3) := by decide +kernel
theorem dX8_told_92 : decode cX8_told 92 = .ok (.ireturn, 1) := by decide +kernel
theorem dX8_told_93 : decode cX8_told 93 = .ok (.aload_n 0, 1) := by decide +kernel
theorem dX8_told_94 : decode cX8_told 94 = .ok (.getfield 84, 3) := by decide +kernel
theorem dX8_told_97 : decode cX8_told 97 = .ok (.ireturn, 1) := by decide +kernel
theorem dX8_told_98 : decode cX8_told 98 = .ok (.aload_n 0, 1) := by decide +kernel
theorem dX8_told_99 : decode cX8_told 99 = .ok (.getfield 7, 3) := by decide +kernel
theorem dX8_told_102 : decode cX8_told 102 = .ok (.bipush 49, 2) := by decide +kernel
theorem dX8_told_104 : decode cX8_told 104 = .ok (.iaload, 1) := by decide +kernel
theorem dX8_told_105 : decode cX8_told 105 = .ok (.ireturn, 1) := by decide +kernel
theorem dX8_told_106 : decode cX8_told 106 = .ok (.aload_n 0, 1) := by decide +kernel
theorem dX8_told_107 : decode cX8_told 107 = .ok (.getfield 7, 3) := by decide +kernel
theorem dX8_told_110 : decode cX8_told 110 = .ok (.bipush 48, 2) := by decide +kernel
theorem dX8_told_112 : decode cX8_told 112 = .ok (.iaload, 1) := by decide +kernel
theorem dX8_told_113 : decode cX8_told 113 = .ok (.ireturn, 1) := by decide +kernel
theorem dX8_told_114 : decode cX8_told 114 = .ok (.aload_n 0, 1) := by decide +kernel
theorem dX8_told_115 : decode cX8_told 115 = .ok (.aload_n 0, 1) := by decide +kernel
theorem dX8_told_116 : decode cX8_told 116 = .ok (.getfield 13, 3) := by decide +kernel
theorem dX8_told_119 : decode cX8_told 119 = .ok (.iconst 3, 1) := by decide +kernel
theorem dX8_told_120 : decode cX8_told 120 = .ok (.iaload, 1) := by decide +kernel
theorem dX8_told_121 : decode cX8_told 121 = .ok (.aload_n 0, 1) := by decide +kernel
theorem dX8_told_122 : decode cX8_told 122 = .ok (.getfield 7, 3) := by decide +kernel
theorem dX8_told_125 : decode cX8_told 125 = .ok (.bipush 48, 2) := by decide +kernel
theorem dX8_told_127 : decode cX8_told 127 = .ok (.iaload, 1) := by decide +kernel
theorem dX8_told_128 : decode cX8_told 128 = .ok (.invokevirtual 137, 3) := by decide +kernel
theorem dX8_told_131 : decode cX8_told 131 = .ok (.ireturn, 1) := by decide +kernel
theorem dX8_told_132 : decode cX8_told 132 = .ok (.aload_n 0, 1) := by decide +kernel
theorem dX8_told_133 : decode cX8_told 133 = .ok (.invokevirtual 141, 3) := by decide +kernel
theorem dX8_told_136 : decode cX8_told 136 = .ok (.ireturn, 1) := by decide +kernel
theorem dX8_told_137 : decode cX8_told 137 = .ok (.aload_n 0, 1) := by decide +kernel
theorem dX8_told_138 : decode cX8_told 138 = .ok (.invokevirtual 144, 3) := by decide +kernel
theorem dX8_told_141 : decode cX8_told 141 = .ok (.ireturn, 1) := by decide +kernel
theorem dX8_told_142 : decode cX8_told 142 = .ok (.aload_n 0, 1) := by decide +kernel
theorem dX8_told_143 : decode cX8_told 143 = .ok (.getfield 131, 3) := by decide +kernel
theorem dX8_told_146 : decode cX8_told 146 = .ok (.ireturn, 1) := by decide +kernel
theorem dX8_told_147 : decode cX8_told 147 = .ok (.aload_n 0, 1) := by decide +kernel
theorem dX8_told_148 : decode cX8_told 148 = .ok (.getfield 134, 3) := by decide +kernel
theorem dX8_told_151 : decode cX8_told 151 = .ok (.ireturn, 1) := by decide +kernel
theorem dX8_told_152 : decode cX8_told 152 = .ok (.iload_n 1, 1) := by decide +kernel
theorem dX8_told_153 : decode cX8_told 153 = .ok (.i2l, 1) := by decide +kernel
theorem dX8_told_154 : decode cX8_told 154 = .ok (.lconst 1, 1) := by decide +kernel
theorem dX8_told_155 : decode cX8_told 155 = .ok (.ldc2_w 147, 3) := by decide +kernel
theorem dX8_told_158 : decode cX8_told 158 = .ok (.invokestatic 63, 3) := by decide +kernel
theorem dX8_told_161 : decode cX8_told 161 = .ok (.ifCond .eq 14, 3) := by decide +kernel
theorem dX8_told_164 : decode cX8_told 164 = .ok (.aload_n 0, 1) := by decide +kernel
theorem dX8_told_165 : decode cX8_told 165 = .ok (.getfield 13, 3) := by decide +kernel
theorem dX8_told_168 : decode cX8_told 168 = .ok (.iload_n 1, 1) := by decide +kernel
theorem dX8_told_169 : decode cX8_told 169 = .ok (.iconst 1, 1) := by decide +kernel
theorem dX8_told_170 : decode cX8_told 170 = .ok (.isub, 1) := by decide +kernel
theorem dX8_told_171 : decode cX8_told 171 = .ok (.iaload, 1) := by decide +kernel
theorem dX8_told_172 : decode cX8_told 172 = .ok (.goto 5, 3) := by decide +kernel
theorem dX8_told_175 : decode cX8_told 175 = .ok (.ldc 83, 2) := by decide +kernel
theorem dX8_told_177 : decode cX8_told 177 = .ok (.ireturn, 1) := by decide +kernel
set_option maxRecDepth 20000 in
theorem ggX8_yard_X8_isYard : GoodIn wsX8_yard wsX8_isYard := goodIn_r _ [8, 9, 10, 11, 7, 12, 13, 14, 15, 16, 17, 18, 19, 20, 21, 22, 23, 24, 25, 26, 27, 28, 29, 30, 31, 32, 33, 34, 35, 36, 37, 38, 39, 40] (by decide +kernel) (by decide +kernel)
set_option maxRecDepth 20000 in
theorem gX8_yard_X8_isYard : GoodIn wsX8_yard (wsV RX8 149 RX8 yX8_isYard wsX8_isYard) := goodIn_app (goodIn_of _ (by decide +kernel)) ggX8_yard_X8_isYard
theorem dX8_yard_0 : decode cX8_yard 0 = .ok (.aload_n 0, 1) := by decide +kernel
theorem dX8_yard_1 : decode cX8_yard 1 = .ok (.iload_n 1, 1) := by decide +kernel
theorem dX8_yard_2 : decode cX8_yard 2 = .ok (.invokevirtual 149, 3) := by decide +kernel
theorem dX8_yard_5 : decode cX8_yard 5 = .ok (.ifCond .ne 6, 3) := by decide +kernel
theorem dX8_yard_8 : decode cX8_yard 8 = .ok (.ldc 152, 2) := by decide +kernel
theorem dX8_yard_10 : decode cX8_yard 10 = .ok (.ireturn, 1) := by decide +kernel
theorem dX8_yard_11 : decode cX8_yard 11 = .ok (.iload_n 2, 1) := by decide +kernel
theorem dX8_yard_12 : decode cX8_yard 12 = .ok (.ifCond .ne 15, 3) := by decide +kernel
theorem dX8_yard_15 : decode cX8_yard 15 = .ok (.aload_n 0, 1) := by decide +kernel
theorem dX8_yard_16 : decode cX8_yard 16 = .ok (.getfield 7, 3) := by decide +kernel
theorem dX8_yard_19 : decode cX8_yard 19 = .ok (.bipush 12, 2) := by decide +kernel
theorem dX8_yard_21 : decode cX8_yard 21 = .ok (.iload_n 1, 1) := by decide +kernel
theorem dX8_yard_22 : decode cX8_yard 22 = .ok (.iadd, 1) := by decide +kernel
theorem dX8_yard_23 : decode cX8_yard 23 = .ok (.iaload, 1) := by decide +kernel
theorem dX8_yard_24 : decode cX8_yard 24 = .ok (.goto 48, 3) := by decide +kernel
theorem dX8_yard_27 : decode cX8_yard 27 = .ok (.iload_n 2, 1) := by decide +kernel
theorem dX8_yard_28 : decode cX8_yard 28 = .ok (.iconst 1, 1) := by decide +kernel
theorem dX8_yard_29 : decode cX8_yard 29 = .ok (.if_icmp .ne 14, 3) := by decide +kernel
theorem dX8_yard_32 : decode cX8_yard 32 = .ok (.aload_n 0, 1) := by decide +kernel
theorem dX8_yard_33 : decode cX8_yard 33 = .ok (.getfield 7, 3) := by decide +kernel
theorem dX8_yard_36 : decode cX8_yard 36 = .ok (.iconst 0, 1) := by decide +kernel
theorem dX8_yard_37 : decode cX8_yard 37 = .ok (.iload_n 1, 1) := by decide +kernel
theorem dX8_yard_38 : decode cX8_yard 38 = .ok (.iadd, 1) := by decide +kernel
theorem dX8_yard_39 : decode cX8_yard 39 = .ok (.iaload, 1) := by decide +kernel
theorem dX8_yard_40 : decode cX8_yard 40 = .ok (.goto 32, 3) := by decide +kernel
theorem dX8_yard_43 : decode cX8_yard 43 = .ok (.iload_n 2, 1) := by decide +kernel
theorem dX8_yard_44 : decode cX8_yard 44 = .ok (.iconst 2, 1) := by decide +kernel
theorem dX8_yard_45 : decode cX8_yard 45 = .ok (.if_icmp .ne 25, 3) := by decide +kernel
theorem dX8_yard_48 : decode cX8_yard 48 = .ok (.aload_n 0, 1) := by decide +kernel
theorem dX8_yard_49 : decode cX8_yard 49 = .ok (.getfield 7, 3) := by decide +kernel
theorem dX8_yard_52 : decode cX8_yard 52 = .ok (.bipush 36, 2) := by decide +kernel
theorem dX8_yard_54 : decode cX8_yard 54 = .ok (.iload_n 1, 1) := by decide +kernel
theorem dX8_yard_55 : decode cX8_yard 55 = .ok (.iadd, 1) := by decide +kernel
theorem dX8_yard_56 : decode cX8_yard 56 = .ok (.iaload, 1) := by decide +kernel
theorem dX8_yard_57 : decode cX8_yard 57 = .ok (.aload_n 0, 1) := by decide +kernel
theorem dX8_yard_58 : decode cX8_yard 58 = .ok (.getfield 7, 3) := by decide +kernel
theorem dX8_yard_61 : decode cX8_yard 61 = .ok (.bipush 24, 2) := by decide +kernel
theorem dX8_yard_63 : decode cX8_yard 63 = .ok (.iload_n 1, 1) := by decide +kernel
theorem dX8_yard_64 : decode cX8_yard 64 = .ok (.iadd, 1) := by decide +kernel
theorem dX8_yard_65 : decode cX8_yard 65 = .ok (.iaload, 1) := by decide +kernel
theorem dX8_yard_66 : decode cX8_yard 66 = .ok (.imul, 1) := by decide +kernel
theorem dX8_yard_67 : decode cX8_yard 67 = .ok (.goto 5, 3) := by decide +kernel
theorem dX8_yard_70 : decode cX8_yard 70 = .ok (.ldc 83, 2) := by decide +kernel
theorem dX8_yard_72 : decode cX8_yard 72 = .ok (.ireturn, 1) := by decide +kernel
theorem dX8_growth_0 : decode cX8_growth 0 = .ok (.bipush 20, 2) := by decide +kernel
theorem dX8_growth_2 : decode cX8_growth 2 = .ok (.iload_n 2, 1) := by decide +kernel
theorem dX8_growth_3 : decode cX8_growth 3 = .ok (.imul, 1) := by decide +kernel
theorem dX8_growth_4 : decode cX8_growth 4 = .ok (.bipush 10, 2) := by decide +kernel
theorem dX8_growth_6 : decode cX8_growth 6 = .ok (.iload_n 1, 1) := by decide +kernel
theorem dX8_growth_7 : decode cX8_growth 7 = .ok (.iadd, 1) := by decide +kernel
theorem dX8_growth_8 : decode cX8_growth 8 = .ok (.idiv, 1) := by decide +kernel
theorem dX8_growth_9 : decode cX8_growth 9 = .ok (.istore_n 3, 1) := by decide +kernel
theorem dX8_growth_10 : decode cX8_growth 10 = .ok (.iload_n 0, 1) := by decide +kernel
theorem dX8_growth_11 : decode cX8_growth 11 = .ok (.iconst 1, 1) := by decide +kernel
theorem dX8_growth_12 : decode cX8_growth 12 = .ok (.if_icmp .ne 11, 3) := by decide +kernel
theorem dX8_growth_15 : decode cX8_growth 15 = .ok (.iload_n 3, 1) := by decide +kernel
theorem dX8_growth_16 : decode cX8_growth 16 = .ok (.iload_n 3, 1) := by decide +kernel
theorem dX8_growth_17 : decode cX8_growth 17 = .ok (.iconst 2, 1) := by decide +kernel
theorem dX8_growth_18 : decode cX8_growth 18 = .ok (.idiv, 1) := by decide +kernel
theorem dX8_growth_19 : decode cX8_growth 19 = .ok (.iadd, 1) := by decide +kernel
theorem dX8_growth_20 : decode cX8_growth 20 = .ok (.goto 15, 3) := by decide +kernel
theorem dX8_growth_23 : decode cX8_growth 23 = .ok (.iload_n 0, 1) := by decide +kernel
theorem dX8_growth_24 : decode cX8_growth 24 = .ok (.iconst 3, 1) := by decide +kernel
theorem dX8_growth_25 : decode cX8_growth 25 = .ok (.if_icmp .ne 9, 3) := by decide +kernel
theorem dX8_growth_28 : decode cX8_growth 28 = .ok (.iload_n 3, 1) := by decide +kernel
theorem dX8_growth_29 : decode cX8_growth 29 = .ok (.iconst 2, 1) := by decide +kernel
theorem dX8_growth_30 : decode cX8_growth 30 = .ok (.idiv, 1) := by decide +kernel
theorem dX8_growth_31 : decode cX8_growth 31 = .ok (.goto 4, 3) := by decide +kernel
theorem dX8_growth_34 : decode cX8_growth 34 = .ok (.iload_n 3, 1) := by decide +kernel
theorem dX8_growth_35 : decode cX8_growth 35 = .ok (.ireturn, 1) := by decide +kernel
set_option maxRecDepth 20000 in
theorem ggX8_grows_X8_isYard : GoodIn wsX8_grows wsX8_isYard := goodIn_r _ [9, 10, 11, 12, 8, 13, 17, 18, 19, 20, 21, 22, 23, 24, 25, 26, 27, 28, 29, 30, 31, 32, 33, 34, 35, 36, 37, 38, 39, 40, 41, 42, 43, 44] (by decide +kernel) (by decide +kernel)
set_option maxRecDepth 20000 in
theorem gX8_grows_X8_isYard : GoodIn wsX8_grows (wsV RX8 149 RX8 yX8_isYard wsX8_isYard) := goodIn_app (goodIn_of _ (by decide +kernel)) ggX8_grows_X8_isYard
set_option maxRecDepth 20000 in
theorem ggX8_grows_X8_in : GoodIn wsX8_grows wsX8_in := goodIn_r _ [13] (by decide +kernel) (by decide +kernel)
set_option maxRecDepth 20000 in
theorem gX8_grows_X8_in : GoodIn wsX8_grows (va_wsS RX8 63 yX8_in wsX8_in) := goodIn_app (goodIn_of _ (by decide +kernel)) ggX8_grows_X8_in
set_option maxRecDepth 20000 in
theorem ggX8_grows_X8_growth : GoodIn wsX8_grows wsX8_growth := goodIn_r _ [16] (by decide +kernel) (by decide +kernel)
set_option maxRecDepth 20000 in
theorem gX8_grows_X8_growth : GoodIn wsX8_grows (va_wsS RX8 155 yX8_growth wsX8_growth) := goodIn_app (goodIn_of _ (by decide +kernel)) ggX8_grows_X8_growth
theorem dX8_grows_0 : decode cX8_grows 0 = .ok (.aload_n 0, 1) := by decide +kernel
theorem dX8_grows_1 : decode cX8_grows 1 = .ok (.iload_n 1, 1) := by decide +kernel
theorem dX8_grows_2 : decode cX8_grows 2 = .ok (.invokevirtual 149, 3) := by decide +kernel
theorem dX8_grows_5 : decode cX8_grows 5 = .ok (.ifCond .ne 6, 3) := by decide +kernel
theorem dX8_grows_8 : decode cX8_grows 8 = .ok (.ldc 152, 2) := by decide +kernel
theorem dX8_grows_10 : decode cX8_grows 10 = .ok (.ireturn, 1) := by decide +kernel
theorem dX8_grows_11 : decode cX8_grows 11 = .ok (.iload_n 2, 1) := by decide +kernel
theorem dX8_grows_12 : decode cX8_grows 12 = .ok (.i2l, 1) := by decide +kernel
theorem dX8_grows_13 : decode cX8_grows 13 = .ok (.lconst 0, 1) := by decide +kernel
theorem dX8_grows_14 : decode cX8_grows 14 = .ok (.ldc2_w 153, 3) := by decide +kernel
theorem dX8_grows_17 : decode cX8_grows 17 = .ok (.invokestatic 63, 3) := by decide +kernel
theorem dX8_grows_20 : decode cX8_grows 20 = .ok (.ifCond .eq 27, 3) := by decide +kernel
theorem dX8_grows_23 : decode cX8_grows 23 = .ok (.aload_n 0, 1) := by decide +kernel
theorem dX8_grows_24 : decode cX8_grows 24 = .ok (.getfield 7, 3) := by decide +kernel
theorem dX8_grows_27 : decode cX8_grows 27 = .ok (.bipush 12, 2) := by decide +kernel
theorem dX8_grows_29 : decode cX8_grows 29 = .ok (.iload_n 1, 1) := by decide +kernel
theorem dX8_grows_30 : decode cX8_grows 30 = .ok (.iadd, 1) := by decide +kernel
theorem dX8_grows_31 : decode cX8_grows 31 = .ok (.iaload, 1) := by decide +kernel
theorem dX8_grows_32 : decode cX8_grows 32 = .ok (.aload_n 0, 1) := by decide +kernel
theorem dX8_grows_33 : decode cX8_grows 33 = .ok (.getfield 7, 3) := by decide +kernel
theorem dX8_grows_36 : decode cX8_grows 36 = .ok (.iconst 0, 1) := by decide +kernel
theorem dX8_grows_37 : decode cX8_grows 37 = .ok (.iload_n 1, 1) := by decide +kernel
theorem dX8_grows_38 : decode cX8_grows 38 = .ok (.iadd, 1) := by decide +kernel
theorem dX8_grows_39 : decode cX8_grows 39 = .ok (.iaload, 1) := by decide +kernel
theorem dX8_grows_40 : decode cX8_grows 40 = .ok (.iload_n 2, 1) := by decide +kernel
theorem dX8_grows_41 : decode cX8_grows 41 = .ok (.invokestatic 155, 3) := by decide +kernel
theorem dX8_grows_44 : decode cX8_grows 44 = .ok (.goto 5, 3) := by decide +kernel
theorem dX8_grows_47 : decode cX8_grows 47 = .ok (.ldc 83, 2) := by decide +kernel
theorem dX8_grows_49 : decode cX8_grows 49 = .ok (.ireturn, 1) := by decide +kernel
theorem dX8_shuts_0 : decode cX8_shuts 0 = .ok (.iconst 0, 1) := by decide +kernel
theorem dX8_shuts_1 : decode cX8_shuts 1 = .ok (.istore_n 2, 1) := by decide +kernel
theorem dX8_shuts_2 : decode cX8_shuts 2 = .ok (.iload_n 2, 1) := by decide +kernel
theorem dX8_shuts_3 : decode cX8_shuts 3 = .ok (.aload_n 0, 1) := by decide +kernel
theorem dX8_shuts_4 : decode cX8_shuts 4 = .ok (.getfield 60, 3) := by decide +kernel
theorem dX8_shuts_7 : decode cX8_shuts 7 = .ok (.if_icmp .ge 111, 3) := by decide +kernel
theorem dX8_shuts_10 : decode cX8_shuts 10 = .ok (.aload_n 0, 1) := by decide +kernel
theorem dX8_shuts_11 : decode cX8_shuts 11 = .ok (.getfield 7, 3) := by decide +kernel
theorem dX8_shuts_14 : decode cX8_shuts 14 = .ok (.iload_n 1, 1) := by decide +kernel
theorem dX8_shuts_15 : decode cX8_shuts 15 = .ok (.bipush 36, 2) := by decide +kernel
theorem dX8_shuts_17 : decode cX8_shuts 17 = .ok (.iadd, 1) := by decide +kernel
theorem dX8_shuts_18 : decode cX8_shuts 18 = .ok (.iload_n 2, 1) := by decide +kernel
theorem dX8_shuts_19 : decode cX8_shuts 19 = .ok (.iadd, 1) := by decide +kernel
theorem dX8_shuts_20 : decode cX8_shuts 20 = .ok (.iaload, 1) := by decide +kernel
theorem dX8_shuts_21 : decode cX8_shuts 21 = .ok (.iconst 1, 1) := by decide +kernel
theorem dX8_shuts_22 : decode cX8_shuts 22 = .ok (.if_icmp .ne 90, 3) := by decide +kernel
theorem dX8_shuts_25 : decode cX8_shuts 25 = .ok (.aload_n 0, 1) := by decide +kernel
theorem dX8_shuts_26 : decode cX8_shuts 26 = .ok (.getfield 7, 3) := by decide +kernel
theorem dX8_shuts_29 : decode cX8_shuts 29 = .ok (.iload_n 1, 1) := by decide +kernel
theorem dX8_shuts_30 : decode cX8_shuts 30 = .ok (.bipush 36, 2) := by decide +kernel
theorem dX8_shuts_32 : decode cX8_shuts 32 = .ok (.iadd, 1) := by decide +kernel
theorem dX8_shuts_33 : decode cX8_shuts 33 = .ok (.iload_n 2, 1) := by decide +kernel
theorem dX8_shuts_34 : decode cX8_shuts 34 = .ok (.iadd, 1) := by decide +kernel
theorem dX8_shuts_35 : decode cX8_shuts 35 = .ok (.iconst 0, 1) := by decide +kernel
theorem dX8_shuts_36 : decode cX8_shuts 36 = .ok (.iastore, 1) := by decide +kernel
theorem dX8_shuts_37 : decode cX8_shuts 37 = .ok (.aload_n 0, 1) := by decide +kernel
theorem dX8_shuts_38 : decode cX8_shuts 38 = .ok (.getfield 7, 3) := by decide +kernel
theorem dX8_shuts_41 : decode cX8_shuts 41 = .ok (.iload_n 1, 1) := by decide +kernel
theorem dX8_shuts_42 : decode cX8_shuts 42 = .ok (.iconst 0, 1) := by decide +kernel
theorem dX8_shuts_43 : decode cX8_shuts 43 = .ok (.iadd, 1) := by decide +kernel
theorem dX8_shuts_44 : decode cX8_shuts 44 = .ok (.iload_n 2, 1) := by decide +kernel
theorem dX8_shuts_45 : decode cX8_shuts 45 = .ok (.iadd, 1) := by decide +kernel
theorem dX8_shuts_46 : decode cX8_shuts 46 = .ok (.aload_n 0, 1) := by decide +kernel
theorem dX8_shuts_47 : decode cX8_shuts 47 = .ok (.getfield 7, 3) := by decide +kernel
theorem dX8_shuts_50 : decode cX8_shuts 50 = .ok (.iload_n 1, 1) := by decide +kernel
theorem dX8_shuts_51 : decode cX8_shuts 51 = .ok (.bipush 24, 2) := by decide +kernel
theorem dX8_shuts_53 : decode cX8_shuts 53 = .ok (.iadd, 1) := by decide +kernel
theorem dX8_shuts_54 : decode cX8_shuts 54 = .ok (.iload_n 2, 1) := by decide +kernel
theorem dX8_shuts_55 : decode cX8_shuts 55 = .ok (.iadd, 1) := by decide +kernel
theorem dX8_shuts_56 : decode cX8_shuts 56 = .ok (.iaload, 1) := by decide +kernel
theorem dX8_shuts_57 : decode cX8_shuts 57 = .ok (.iconst 3, 1) := by decide +kernel
theorem dX8_shuts_58 : decode cX8_shuts 58 = .ok (.idiv, 1) := by decide +kernel
theorem dX8_shuts_59 : decode cX8_shuts 59 = .ok (.iastore, 1) := by decide +kernel
theorem dX8_shuts_60 : decode cX8_shuts 60 = .ok (.aload_n 0, 1) := by decide +kernel
theorem dX8_shuts_61 : decode cX8_shuts 61 = .ok (.getfield 7, 3) := by decide +kernel
theorem dX8_shuts_64 : decode cX8_shuts 64 = .ok (.iload_n 1, 1) := by decide +kernel
theorem dX8_shuts_65 : decode cX8_shuts 65 = .ok (.bipush 24, 2) := by decide +kernel
theorem dX8_shuts_67 : decode cX8_shuts 67 = .ok (.iadd, 1) := by decide +kernel
theorem dX8_shuts_68 : decode cX8_shuts 68 = .ok (.iload_n 2, 1) := by decide +kernel
theorem dX8_shuts_69 : decode cX8_shuts 69 = .ok (.iadd, 1) := by decide +kernel
theorem dX8_shuts_70 : decode cX8_shuts 70 = .ok (.iconst 0, 1) := by decide +kernel
theorem dX8_shuts_71 : decode cX8_shuts 71 = .ok (.iastore, 1) := by decide +kernel
theorem dX8_shuts_72 : decode cX8_shuts 72 = .ok (.aload_n 0, 1) := by decide +kernel
theorem dX8_shuts_73 : decode cX8_shuts 73 = .ok (.getfield 7, 3) := by decide +kernel
theorem dX8_shuts_76 : decode cX8_shuts 76 = .ok (.iload_n 1, 1) := by decide +kernel
theorem dX8_shuts_77 : decode cX8_shuts 77 = .ok (.bipush 12, 2) := by decide +kernel
theorem dX8_shuts_79 : decode cX8_shuts 79 = .ok (.iadd, 1) := by decide +kernel
theorem dX8_shuts_80 : decode cX8_shuts 80 = .ok (.iload_n 2, 1) := by decide +kernel
theorem dX8_shuts_81 : decode cX8_shuts 81 = .ok (.iadd, 1) := by decide +kernel
theorem dX8_shuts_82 : decode cX8_shuts 82 = .ok (.aload_n 0, 1) := by decide +kernel
theorem dX8_shuts_83 : decode cX8_shuts 83 = .ok (.getfield 7, 3) := by decide +kernel
theorem dX8_shuts_86 : decode cX8_shuts 86 = .ok (.iload_n 1, 1) := by decide +kernel
theorem dX8_shuts_87 : decode cX8_shuts 87 = .ok (.bipush 12, 2) := by decide +kernel
theorem dX8_shuts_89 : decode cX8_shuts 89 = .ok (.iadd, 1) := by decide +kernel
theorem dX8_shuts_90 : decode cX8_shuts 90 = .ok (.iload_n 2, 1) := by decide +kernel
theorem dX8_shuts_91 : decode cX8_shuts 91 = .ok (.iadd, 1) := by decide +kernel
theorem dX8_shuts_92 : decode cX8_shuts 92 = .ok (.iaload, 1) := by decide +kernel
theorem dX8_shuts_93 : decode cX8_shuts 93 = .ok (.ifCond .ne 7, 3) := by decide +kernel
theorem dX8_shuts_96 : decode cX8_shuts 96 = .ok (.iconst 1, 1) := by decide +kernel
theorem dX8_shuts_97 : decode cX8_shuts 97 = .ok (.goto 14, 3) := by decide +kernel
theorem dX8_shuts_100 : decode cX8_shuts 100 = .ok (.aload_n 0, 1) := by decide +kernel
theorem dX8_shuts_101 : decode cX8_shuts 101 = .ok (.getfield 7, 3) := by decide +kernel
theorem dX8_shuts_104 : decode cX8_shuts 104 = .ok (.iload_n 1, 1) := by decide +kernel
theorem dX8_shuts_105 : decode cX8_shuts 105 = .ok (.bipush 12, 2) := by decide +kernel
theorem dX8_shuts_107 : decode cX8_shuts 107 = .ok (.iadd, 1) := by decide +kernel
theorem dX8_shuts_108 : decode cX8_shuts 108 = .ok (.iload_n 2, 1) := by decide +kernel
theorem dX8_shuts_109 : decode cX8_shuts 109 = .ok (.iadd, 1) := by decide +kernel
theorem dX8_shuts_110 : decode cX8_shuts 110 = .ok (.iaload, 1) := by decide +kernel
theorem dX8_shuts_111 : decode cX8_shuts 111 = .ok (.iastore, 1) := by decide +kernel
theorem dX8_shuts_112 : decode cX8_shuts 112 = .ok (.iinc 2 1, 3) := by decide +kernel
theorem dX8_shuts_115 : decode cX8_shuts 115 = .ok (.goto (-113), 3) := by decide +kernel
theorem dX8_shuts_118 : decode cX8_shuts 118 = .ok (.aload_n 0, 1) := by decide +kernel
theorem dX8_shuts_119 : decode cX8_shuts 119 = .ok (.getfield 7, 3) := by decide +kernel
theorem dX8_shuts_122 : decode cX8_shuts 122 = .ok (.iload_n 1, 1) := by decide +kernel
theorem dX8_shuts_123 : decode cX8_shuts 123 = .ok (.bipush 49, 2) := by decide +kernel
theorem dX8_shuts_125 : decode cX8_shuts 125 = .ok (.iadd, 1) := by decide +kernel
theorem dX8_shuts_126 : decode cX8_shuts 126 = .ok (.dup2, 1) := by decide +kernel
theorem dX8_shuts_127 : decode cX8_shuts 127 = .ok (.iaload, 1) := by decide +kernel
theorem dX8_shuts_128 : decode cX8_shuts 128 = .ok (.iconst 1, 1) := by decide +kernel
theorem dX8_shuts_129 : decode cX8_shuts 129 = .ok (.iadd, 1) := by decide +kernel
theorem dX8_shuts_130 : decode cX8_shuts 130 = .ok (.iastore, 1) := by decide +kernel
theorem dX8_shuts_131 : decode cX8_shuts 131 = .ok (.return_, 1) := by decide +kernel
set_option maxRecDepth 20000 in
theorem ggX8_nightOf_X8_shuts : GoodIn wsX8_nightOf wsX8_shuts := goodIn_r _ [7, 1, 2, 11, 12, 13, 14, 15, 16, 17, 18, 19, 20, 21, 22, 23, 24, 25, 26, 27, 28, 29, 30, 31, 32, 33, 34, 35, 36, 37, 38] (by decide +kernel) (by decide +kernel)
set_option maxRecDepth 20000 in
theorem gX8_nightOf_X8_shuts : GoodIn wsX8_nightOf (wsV RX8 159 RX8 yX8_shuts wsX8_shuts) := goodIn_app (goodIn_of _ (by decide +kernel)) ggX8_nightOf_X8_shuts
set_option maxRecDepth 20000 in
theorem ggX8_nightOf_X8_growth : GoodIn wsX8_nightOf wsX8_growth := goodIn_r _ [10] (by decide +kernel) (by decide +kernel)
set_option maxRecDepth 20000 in
theorem gX8_nightOf_X8_growth : GoodIn wsX8_nightOf (va_wsS RX8 155 yX8_growth wsX8_growth) := goodIn_app (goodIn_of _ (by decide +kernel)) ggX8_nightOf_X8_growth
theorem dX8_nightOf_0 : decode cX8_nightOf 0 = .ok (.aload_n 0, 1) := by decide +kernel
theorem dX8_nightOf_1 : decode cX8_nightOf 1 = .ok (.iload_n 1, 1) := by decide +kernel
theorem dX8_nightOf_2 : decode cX8_nightOf 2 = .ok (.invokevirtual 159, 3) := by decide +kernel
theorem dX8_nightOf_5 : decode cX8_nightOf 5 = .ok (.iconst 0, 1) := by decide +kernel
theorem dX8_nightOf_6 : decode cX8_nightOf 6 = .ok (.istore_n 3, 1) := by decide +kernel
theorem dX8_nightOf_7 : decode cX8_nightOf 7 = .ok (.iload_n 3, 1) := by decide +kernel
theorem dX8_nightOf_8 : decode cX8_nightOf 8 = .ok (.aload_n 0, 1) := by decide +kernel
theorem dX8_nightOf_9 : decode cX8_nightOf 9 = .ok (.getfield 60, 3) := by decide +kernel
theorem dX8_nightOf_12 : decode cX8_nightOf 12 = .ok (.if_icmp .ge 73, 3) := by decide +kernel
theorem dX8_nightOf_15 : decode cX8_nightOf 15 = .ok (.aload_n 0, 1) := by decide +kernel
theorem dX8_nightOf_16 : decode cX8_nightOf 16 = .ok (.getfield 7, 3) := by decide +kernel
theorem dX8_nightOf_19 : decode cX8_nightOf 19 = .ok (.iload_n 1, 1) := by decide +kernel
theorem dX8_nightOf_20 : decode cX8_nightOf 20 = .ok (.iconst 0, 1) := by decide +kernel
theorem dX8_nightOf_21 : decode cX8_nightOf 21 = .ok (.iadd, 1) := by decide +kernel
theorem dX8_nightOf_22 : decode cX8_nightOf 22 = .ok (.iload_n 3, 1) := by decide +kernel
theorem dX8_nightOf_23 : decode cX8_nightOf 23 = .ok (.iadd, 1) := by decide +kernel
theorem dX8_nightOf_24 : decode cX8_nightOf 24 = .ok (.iaload, 1) := by decide +kernel
theorem dX8_nightOf_25 : decode cX8_nightOf 25 = .ok (.aload_n 0, 1) := by decide +kernel
theorem dX8_nightOf_26 : decode cX8_nightOf 26 = .ok (.getfield 7, 3) := by decide +kernel
theorem dX8_nightOf_29 : decode cX8_nightOf 29 = .ok (.iload_n 1, 1) := by decide +kernel
theorem dX8_nightOf_30 : decode cX8_nightOf 30 = .ok (.bipush 12, 2) := by decide +kernel
theorem dX8_nightOf_32 : decode cX8_nightOf 32 = .ok (.iadd, 1) := by decide +kernel
theorem dX8_nightOf_33 : decode cX8_nightOf 33 = .ok (.iload_n 3, 1) := by decide +kernel
theorem dX8_nightOf_34 : decode cX8_nightOf 34 = .ok (.iadd, 1) := by decide +kernel
theorem dX8_nightOf_35 : decode cX8_nightOf 35 = .ok (.iaload, 1) := by decide +kernel
theorem dX8_nightOf_36 : decode cX8_nightOf 36 = .ok (.aload_n 0, 1) := by decide +kernel
theorem dX8_nightOf_37 : decode cX8_nightOf 37 = .ok (.getfield 7, 3) := by decide +kernel
theorem dX8_nightOf_40 : decode cX8_nightOf 40 = .ok (.iload_n 1, 1) := by decide +kernel
theorem dX8_nightOf_41 : decode cX8_nightOf 41 = .ok (.iconst 0, 1) := by decide +kernel
theorem dX8_nightOf_42 : decode cX8_nightOf 42 = .ok (.iadd, 1) := by decide +kernel
theorem dX8_nightOf_43 : decode cX8_nightOf 43 = .ok (.iload_n 3, 1) := by decide +kernel
theorem dX8_nightOf_44 : decode cX8_nightOf 44 = .ok (.iadd, 1) := by decide +kernel
theorem dX8_nightOf_45 : decode cX8_nightOf 45 = .ok (.iaload, 1) := by decide +kernel
theorem dX8_nightOf_46 : decode cX8_nightOf 46 = .ok (.iload_n 2, 1) := by decide +kernel
theorem dX8_nightOf_47 : decode cX8_nightOf 47 = .ok (.invokestatic 155, 3) := by decide +kernel
theorem dX8_nightOf_50 : decode cX8_nightOf 50 = .ok (.iadd, 1) := by decide +kernel
theorem dX8_nightOf_51 : decode cX8_nightOf 51 = .ok (.istore 4, 2) := by decide +kernel
theorem dX8_nightOf_53 : decode cX8_nightOf 53 = .ok (.aload_n 0, 1) := by decide +kernel
theorem dX8_nightOf_54 : decode cX8_nightOf 54 = .ok (.getfield 7, 3) := by decide +kernel
theorem dX8_nightOf_57 : decode cX8_nightOf 57 = .ok (.iload_n 1, 1) := by decide +kernel
theorem dX8_nightOf_58 : decode cX8_nightOf 58 = .ok (.iconst 0, 1) := by decide +kernel
theorem dX8_nightOf_59 : decode cX8_nightOf 59 = .ok (.iadd, 1) := by decide +kernel
theorem dX8_nightOf_60 : decode cX8_nightOf 60 = .ok (.iload_n 3, 1) := by decide +kernel
theorem dX8_nightOf_61 : decode cX8_nightOf 61 = .ok (.iadd, 1) := by decide +kernel
theorem dX8_nightOf_62 : decode cX8_nightOf 62 = .ok (.iload 4, 2) := by decide +kernel
theorem dX8_nightOf_64 : decode cX8_nightOf 64 = .ok (.sipush 300, 3) := by decide +kernel
theorem dX8_nightOf_67 : decode cX8_nightOf 67 = .ok (.if_icmp .le 9, 3) := by decide +kernel
theorem dX8_nightOf_70 : decode cX8_nightOf 70 = .ok (.sipush 300, 3) := by decide +kernel
theorem dX8_nightOf_73 : decode cX8_nightOf 73 = .ok (.goto 5, 3) := by decide +kernel
theorem dX8_nightOf_76 : decode cX8_nightOf 76 = .ok (.iload 4, 2) := by decide +kernel
theorem dX8_nightOf_78 : decode cX8_nightOf 78 = .ok (.iastore, 1) := by decide +kernel
theorem dX8_nightOf_79 : decode cX8_nightOf 79 = .ok (.iinc 3 1, 3) := by decide +kernel
theorem dX8_nightOf_82 : decode cX8_nightOf 82 = .ok (.goto (-75), 3) := by decide +kernel
theorem dX8_nightOf_85 : decode cX8_nightOf 85 = .ok (.return_, 1) := by decide +kernel
set_option maxRecDepth 20000 in
theorem ggX8_thawOf_X8_shuts : GoodIn wsX8_thawOf wsX8_shuts := goodIn_r _ [7, 1, 2, 8, 9, 10, 11, 12, 13, 14, 15, 16, 17, 18, 19, 20, 21, 22, 23, 24, 25, 26, 27, 28, 29, 30, 31, 32, 33, 34, 35] (by decide +kernel) (by decide +kernel)
set_option maxRecDepth 20000 in
theorem gX8_thawOf_X8_shuts : GoodIn wsX8_thawOf (wsV RX8 159 RX8 yX8_shuts wsX8_shuts) := goodIn_app (goodIn_of _ (by decide +kernel)) ggX8_thawOf_X8_shuts
theorem dX8_thawOf_0 : decode cX8_thawOf 0 = .ok (.aload_n 0, 1) := by decide +kernel
theorem dX8_thawOf_1 : decode cX8_thawOf 1 = .ok (.iload_n 1, 1) := by decide +kernel
theorem dX8_thawOf_2 : decode cX8_thawOf 2 = .ok (.invokevirtual 159, 3) := by decide +kernel
theorem dX8_thawOf_5 : decode cX8_thawOf 5 = .ok (.iconst 0, 1) := by decide +kernel
theorem dX8_thawOf_6 : decode cX8_thawOf 6 = .ok (.istore_n 3, 1) := by decide +kernel
theorem dX8_thawOf_7 : decode cX8_thawOf 7 = .ok (.iload_n 3, 1) := by decide +kernel
theorem dX8_thawOf_8 : decode cX8_thawOf 8 = .ok (.aload_n 0, 1) := by decide +kernel
theorem dX8_thawOf_9 : decode cX8_thawOf 9 = .ok (.getfield 60, 3) := by decide +kernel
theorem dX8_thawOf_12 : decode cX8_thawOf 12 = .ok (.if_icmp .ge 44, 3) := by decide +kernel
theorem dX8_thawOf_15 : decode cX8_thawOf 15 = .ok (.aload_n 0, 1) := by decide +kernel
theorem dX8_thawOf_16 : decode cX8_thawOf 16 = .ok (.getfield 7, 3) := by decide +kernel
theorem dX8_thawOf_19 : decode cX8_thawOf 19 = .ok (.iload_n 1, 1) := by decide +kernel
theorem dX8_thawOf_20 : decode cX8_thawOf 20 = .ok (.iconst 0, 1) := by decide +kernel
theorem dX8_thawOf_21 : decode cX8_thawOf 21 = .ok (.iadd, 1) := by decide +kernel
theorem dX8_thawOf_22 : decode cX8_thawOf 22 = .ok (.iload_n 3, 1) := by decide +kernel
theorem dX8_thawOf_23 : decode cX8_thawOf 23 = .ok (.iadd, 1) := by decide +kernel
theorem dX8_thawOf_24 : decode cX8_thawOf 24 = .ok (.iaload, 1) := by decide +kernel
theorem dX8_thawOf_25 : decode cX8_thawOf 25 = .ok (.iload_n 2, 1) := by decide +kernel
theorem dX8_thawOf_26 : decode cX8_thawOf 26 = .ok (.isub, 1) := by decide +kernel
theorem dX8_thawOf_27 : decode cX8_thawOf 27 = .ok (.istore 4, 2) := by decide +kernel
theorem dX8_thawOf_29 : decode cX8_thawOf 29 = .ok (.aload_n 0, 1) := by decide +kernel
theorem dX8_thawOf_30 : decode cX8_thawOf 30 = .ok (.getfield 7, 3) := by decide +kernel
theorem dX8_thawOf_33 : decode cX8_thawOf 33 = .ok (.iload_n 1, 1) := by decide +kernel
theorem dX8_thawOf_34 : decode cX8_thawOf 34 = .ok (.iconst 0, 1) := by decide +kernel
theorem dX8_thawOf_35 : decode cX8_thawOf 35 = .ok (.iadd, 1) := by decide +kernel
theorem dX8_thawOf_36 : decode cX8_thawOf 36 = .ok (.iload_n 3, 1) := by decide +kernel
theorem dX8_thawOf_37 : decode cX8_thawOf 37 = .ok (.iadd, 1) := by decide +kernel
theorem dX8_thawOf_38 : decode cX8_thawOf 38 = .ok (.iload 4, 2) := by decide +kernel
theorem dX8_thawOf_40 : decode cX8_thawOf 40 = .ok (.ifCond .ge 7, 3) := by decide +kernel
theorem dX8_thawOf_43 : decode cX8_thawOf 43 = .ok (.iconst 0, 1) := by decide +kernel
theorem dX8_thawOf_44 : decode cX8_thawOf 44 = .ok (.goto 5, 3) := by decide +kernel
theorem dX8_thawOf_47 : decode cX8_thawOf 47 = .ok (.iload 4, 2) := by decide +kernel
theorem dX8_thawOf_49 : decode cX8_thawOf 49 = .ok (.iastore, 1) := by decide +kernel
theorem dX8_thawOf_50 : decode cX8_thawOf 50 = .ok (.iinc 3 1, 3) := by decide +kernel
theorem dX8_thawOf_53 : decode cX8_thawOf 53 = .ok (.goto (-46), 3) := by decide +kernel
theorem dX8_thawOf_56 : decode cX8_thawOf 56 = .ok (.return_, 1) := by decide +kernel
theorem dX8_allIce_0 : decode cX8_allIce 0 = .ok (.iconst 0, 1) := by decide +kernel
theorem dX8_allIce_1 : decode cX8_allIce 1 = .ok (.istore_n 1, 1) := by decide +kernel
theorem dX8_allIce_2 : decode cX8_allIce 2 = .ok (.iconst 0, 1) := by decide +kernel
theorem dX8_allIce_3 : decode cX8_allIce 3 = .ok (.istore_n 2, 1) := by decide +kernel
theorem dX8_allIce_4 : decode cX8_allIce 4 = .ok (.iload_n 2, 1) := by decide +kernel
theorem dX8_allIce_5 : decode cX8_allIce 5 = .ok (.aload_n 0, 1) := by decide +kernel
theorem dX8_allIce_6 : decode cX8_allIce 6 = .ok (.getfield 60, 3) := by decide +kernel
theorem dX8_allIce_9 : decode cX8_allIce 9 = .ok (.if_icmp .ge 20, 3) := by decide +kernel
theorem dX8_allIce_12 : decode cX8_allIce 12 = .ok (.iload_n 1, 1) := by decide +kernel
theorem dX8_allIce_13 : decode cX8_allIce 13 = .ok (.aload_n 0, 1) := by decide +kernel
theorem dX8_allIce_14 : decode cX8_allIce 14 = .ok (.getfield 7, 3) := by decide +kernel
theorem dX8_allIce_17 : decode cX8_allIce 17 = .ok (.iconst 0, 1) := by decide +kernel
theorem dX8_allIce_18 : decode cX8_allIce 18 = .ok (.iload_n 2, 1) := by decide +kernel
theorem dX8_allIce_19 : decode cX8_allIce 19 = .ok (.iadd, 1) := by decide +kernel
theorem dX8_allIce_20 : decode cX8_allIce 20 = .ok (.iaload, 1) := by decide +kernel
theorem dX8_allIce_21 : decode cX8_allIce 21 = .ok (.iadd, 1) := by decide +kernel
theorem dX8_allIce_22 : decode cX8_allIce 22 = .ok (.istore_n 1, 1) := by decide +kernel
theorem dX8_allIce_23 : decode cX8_allIce 23 = .ok (.iinc 2 1, 3) := by decide +kernel
theorem dX8_allIce_26 : decode cX8_allIce 26 = .ok (.goto (-22), 3) := by decide +kernel
theorem dX8_allIce_29 : decode cX8_allIce 29 = .ok (.iload_n 1, 1) := by decide +kernel
theorem dX8_allIce_30 : decode cX8_allIce 30 = .ok (.ireturn, 1) := by decide +kernel
set_option maxRecDepth 20000 in
theorem ggX8_night_X8_in : GoodIn wsX8_night wsX8_in := goodIn_r _ [9] (by decide +kernel) (by decide +kernel)
set_option maxRecDepth 20000 in
theorem gX8_night_X8_in : GoodIn wsX8_night (va_wsS RX8 63 yX8_in wsX8_in) := goodIn_app (goodIn_of _ (by decide +kernel)) ggX8_night_X8_in
set_option maxRecDepth 20000 in
theorem ggX8_night_X8_nightOf : GoodIn wsX8_night wsX8_nightOf := goodIn_r _ [13, 14, 4, 15, 16, 17, 8, 18, 19, 20, 21, 26, 27, 28, 29, 30, 31, 32, 33, 34, 35, 36, 37, 38, 39, 40, 41, 42, 43, 44, 45, 46, 47, 48, 49, 50, 51, 52, 53] (by decide +kernel) (by decide +kernel)
set_option maxRecDepth 20000 in
theorem gX8_night_X8_nightOf : GoodIn wsX8_night (wsV RX8 165 RX8 yX8_nightOf wsX8_nightOf) := goodIn_app (goodIn_of _ (by decide +kernel)) ggX8_night_X8_nightOf
set_option maxRecDepth 20000 in
theorem ggX8_night_X8_allIce : GoodIn wsX8_night wsX8_allIce := goodIn_r _ [25, 14, 4, 26, 27, 28, 29, 30, 31, 32, 33, 34, 35, 36, 37, 38, 39, 40, 41, 42, 43, 44, 45, 46, 47, 48, 49, 50, 51, 52, 53] (by decide +kernel) (by decide +kernel)
set_option maxRecDepth 20000 in
theorem gX8_night_X8_allIce : GoodIn wsX8_night (wsV RX8 169 RX8 yX8_allIce wsX8_allIce) := goodIn_app (goodIn_of _ (by decide +kernel)) ggX8_night_X8_allIce
theorem dX8_night_0 : decode cX8_night 0 = .ok (.iload_n 1, 1) := by decide +kernel
theorem dX8_night_1 : decode cX8_night 1 = .ok (.i2l, 1) := by decide +kernel
theorem dX8_night_2 : decode cX8_night 2 = .ok (.lconst 0, 1) := by decide +kernel
theorem dX8_night_3 : decode cX8_night 3 = .ok (.ldc2_w 153, 3) := by decide +kernel
theorem dX8_night_6 : decode cX8_night 6 = .ok (.invokestatic 63, 3) := by decide +kernel
theorem dX8_night_9 : decode cX8_night 9 = .ok (.ifCond .eq 15, 3) := by decide +kernel
theorem dX8_night_12 : decode cX8_night 12 = .ok (.iload_n 2, 1) := by decide +kernel
theorem dX8_night_13 : decode cX8_night 13 = .ok (.i2l, 1) := by decide +kernel
theorem dX8_night_14 : decode cX8_night 14 = .ok (.lconst 1, 1) := by decide +kernel
theorem dX8_night_15 : decode cX8_night 15 = .ok (.ldc2_w 163, 3) := by decide +kernel
theorem dX8_night_18 : decode cX8_night 18 = .ok (.invokestatic 63, 3) := by decide +kernel
theorem dX8_night_21 : decode cX8_night 21 = .ok (.ifCond .ne 6, 3) := by decide +kernel
theorem dX8_night_24 : decode cX8_night 24 = .ok (.ldc 83, 2) := by decide +kernel
theorem dX8_night_26 : decode cX8_night 26 = .ok (.ireturn, 1) := by decide +kernel
theorem dX8_night_27 : decode cX8_night 27 = .ok (.aload_n 0, 1) := by decide +kernel
theorem dX8_night_28 : decode cX8_night 28 = .ok (.getfield 7, 3) := by decide +kernel
theorem dX8_night_31 : decode cX8_night 31 = .ok (.bipush 49, 2) := by decide +kernel
theorem dX8_night_33 : decode cX8_night 33 = .ok (.iaload, 1) := by decide +kernel
theorem dX8_night_34 : decode cX8_night 34 = .ok (.sipush 9000, 3) := by decide +kernel
theorem dX8_night_37 : decode cX8_night 37 = .ok (.if_icmp .le 6, 3) := by decide +kernel
theorem dX8_night_40 : decode cX8_night 40 = .ok (.ldc 87, 2) := by decide +kernel
theorem dX8_night_42 : decode cX8_night 42 = .ok (.ireturn, 1) := by decide +kernel
theorem dX8_night_43 : decode cX8_night 43 = .ok (.iconst 0, 1) := by decide +kernel
theorem dX8_night_44 : decode cX8_night 44 = .ok (.istore_n 3, 1) := by decide +kernel
theorem dX8_night_45 : decode cX8_night 45 = .ok (.iload_n 3, 1) := by decide +kernel
theorem dX8_night_46 : decode cX8_night 46 = .ok (.iload_n 2, 1) := by decide +kernel
theorem dX8_night_47 : decode cX8_night 47 = .ok (.if_icmp .ge 15, 3) := by decide +kernel
theorem dX8_night_50 : decode cX8_night 50 = .ok (.aload_n 0, 1) := by decide +kernel
theorem dX8_night_51 : decode cX8_night 51 = .ok (.iconst 0, 1) := by decide +kernel
theorem dX8_night_52 : decode cX8_night 52 = .ok (.iload_n 1, 1) := by decide +kernel
theorem dX8_night_53 : decode cX8_night 53 = .ok (.invokevirtual 165, 3) := by decide +kernel
theorem dX8_night_56 : decode cX8_night 56 = .ok (.iinc 3 1, 3) := by decide +kernel
theorem dX8_night_59 : decode cX8_night 59 = .ok (.goto (-14), 3) := by decide +kernel
theorem dX8_night_62 : decode cX8_night 62 = .ok (.aload_n 0, 1) := by decide +kernel
theorem dX8_night_63 : decode cX8_night 63 = .ok (.invokevirtual 169, 3) := by decide +kernel
theorem dX8_night_66 : decode cX8_night 66 = .ok (.ireturn, 1) := by decide +kernel
set_option maxRecDepth 20000 in
theorem ggX8_thaw_X8_in : GoodIn wsX8_thaw wsX8_in := goodIn_r _ [8] (by decide +kernel) (by decide +kernel)
set_option maxRecDepth 20000 in
theorem gX8_thaw_X8_in : GoodIn wsX8_thaw (va_wsS RX8 63 yX8_in wsX8_in) := goodIn_app (goodIn_of _ (by decide +kernel)) ggX8_thaw_X8_in
set_option maxRecDepth 20000 in
theorem ggX8_thaw_X8_thawOf : GoodIn wsX8_thaw wsX8_thawOf := goodIn_r _ [12, 13, 3, 14, 15, 16, 7, 17, 22, 23, 24, 25, 26, 27, 28, 29, 30, 31, 32, 33, 34, 35, 36, 37, 38, 39, 40, 41, 42, 43, 44, 45, 46, 47, 48, 49] (by decide +kernel) (by decide +kernel)
set_option maxRecDepth 20000 in
theorem gX8_thaw_X8_thawOf : GoodIn wsX8_thaw (wsV RX8 174 RX8 yX8_thawOf wsX8_thawOf) := goodIn_app (goodIn_of _ (by decide +kernel)) ggX8_thaw_X8_thawOf
set_option maxRecDepth 20000 in
theorem ggX8_thaw_X8_allIce : GoodIn wsX8_thaw wsX8_allIce := goodIn_r _ [21, 13, 3, 22, 23, 24, 25, 26, 27, 28, 29, 30, 31, 32, 33, 34, 35, 36, 37, 38, 39, 40, 41, 42, 43, 44, 45, 46, 47, 48, 49] (by decide +kernel) (by decide +kernel)
set_option maxRecDepth 20000 in
theorem gX8_thaw_X8_allIce : GoodIn wsX8_thaw (wsV RX8 169 RX8 yX8_allIce wsX8_allIce) := goodIn_app (goodIn_of _ (by decide +kernel)) ggX8_thaw_X8_allIce
theorem dX8_thaw_0 : decode cX8_thaw 0 = .ok (.iload_n 1, 1) := by decide +kernel
theorem dX8_thaw_1 : decode cX8_thaw 1 = .ok (.i2l, 1) := by decide +kernel
theorem dX8_thaw_2 : decode cX8_thaw 2 = .ok (.lconst 0, 1) := by decide +kernel
theorem dX8_thaw_3 : decode cX8_thaw 3 = .ok (.ldc2_w 172, 3) := by decide +kernel
theorem dX8_thaw_6 : decode cX8_thaw 6 = .ok (.invokestatic 63, 3) := by decide +kernel
theorem dX8_thaw_9 : decode cX8_thaw 9 = .ok (.ifCond .ne 6, 3) := by decide +kernel
theorem dX8_thaw_12 : decode cX8_thaw 12 = .ok (.ldc 83, 2) := by decide +kernel
theorem dX8_thaw_14 : decode cX8_thaw 14 = .ok (.ireturn, 1) := by decide +kernel
theorem dX8_thaw_15 : decode cX8_thaw 15 = .ok (.aload_n 0, 1) := by decide +kernel
theorem dX8_thaw_16 : decode cX8_thaw 16 = .ok (.getfield 7, 3) := by decide +kernel
theorem dX8_thaw_19 : decode cX8_thaw 19 = .ok (.bipush 49, 2) := by decide +kernel
theorem dX8_thaw_21 : decode cX8_thaw 21 = .ok (.iaload, 1) := by decide +kernel
theorem dX8_thaw_22 : decode cX8_thaw 22 = .ok (.sipush 9000, 3) := by decide +kernel
theorem dX8_thaw_25 : decode cX8_thaw 25 = .ok (.if_icmp .le 6, 3) := by decide +kernel
theorem dX8_thaw_28 : decode cX8_thaw 28 = .ok (.ldc 87, 2) := by decide +kernel
theorem dX8_thaw_30 : decode cX8_thaw 30 = .ok (.ireturn, 1) := by decide +kernel
theorem dX8_thaw_31 : decode cX8_thaw 31 = .ok (.aload_n 0, 1) := by decide +kernel
theorem dX8_thaw_32 : decode cX8_thaw 32 = .ok (.iconst 0, 1) := by decide +kernel
theorem dX8_thaw_33 : decode cX8_thaw 33 = .ok (.iload_n 1, 1) := by decide +kernel
theorem dX8_thaw_34 : decode cX8_thaw 34 = .ok (.invokevirtual 174, 3) := by decide +kernel
theorem dX8_thaw_37 : decode cX8_thaw 37 = .ok (.aload_n 0, 1) := by decide +kernel
theorem dX8_thaw_38 : decode cX8_thaw 38 = .ok (.invokevirtual 169, 3) := by decide +kernel
theorem dX8_thaw_41 : decode cX8_thaw 41 = .ok (.ireturn, 1) := by decide +kernel
set_option maxRecDepth 20000 in
theorem ggX8_beat_X8_in : GoodIn wsX8_beat wsX8_in := goodIn_r _ [7] (by decide +kernel) (by decide +kernel)
set_option maxRecDepth 20000 in
theorem gX8_beat_X8_in : GoodIn wsX8_beat (va_wsS RX8 63 yX8_in wsX8_in) := goodIn_app (goodIn_of _ (by decide +kernel)) ggX8_beat_X8_in
set_option maxRecDepth 20000 in
theorem ggX8_beat_X8_forceNow : GoodIn wsX8_beat wsX8_forceNow := goodIn_r _ [11, 12, 3, 13, 14, 15, 6, 16, 17, 18, 19, 20, 21, 22, 23, 24, 25, 26, 27, 28, 29, 30, 31, 32, 33, 34, 35, 36, 37, 38, 39, 40, 41, 42, 43, 44] (by decide +kernel) (by decide +kernel)
set_option maxRecDepth 20000 in
theorem gX8_beat_X8_forceNow : GoodIn wsX8_beat (wsV RX8 141 RX8 yX8_forceNow wsX8_forceNow) := goodIn_app (goodIn_of _ (by decide +kernel)) ggX8_beat_X8_forceNow
