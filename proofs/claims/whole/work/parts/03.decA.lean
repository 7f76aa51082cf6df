theorem dX0_init_0 : decode cX0_init 0 = .ok (.aload_n 0, 1) := by decide +kernel
theorem dX0_init_1 : decode cX0_init 1 = .ok (.invokespecial 1, 3) := by decide +kernel
theorem dX0_init_4 : decode cX0_init 4 = .ok (.aload_n 0, 1) := by decide +kernel
theorem dX0_init_5 : decode cX0_init 5 = .ok (.bipush 9, 2) := by decide +kernel
theorem dX0_init_7 : decode cX0_init 7 = .ok (.newarray .int, 2) := by decide +kernel
theorem dX0_init_9 : decode cX0_init 9 = .ok (.putfield 9, 3) := by decide +kernel
theorem dX0_init_12 : decode cX0_init 12 = .ok (.iconst 0, 1) := by decide +kernel
theorem dX0_init_13 : decode cX0_init 13 = .ok (.istore_n 1, 1) := by decide +kernel
theorem dX0_init_14 : decode cX0_init 14 = .ok (.iload_n 1, 1) := by decide +kernel
theorem dX0_init_15 : decode cX0_init 15 = .ok (.bipush 9, 2) := by decide +kernel
theorem dX0_init_17 : decode cX0_init 17 = .ok (.if_icmp .ge 20, 3) := by decide +kernel
theorem dX0_init_20 : decode cX0_init 20 = .ok (.aload_n 0, 1) := by decide +kernel
theorem dX0_init_21 : decode cX0_init 21 = .ok (.getfield 9, 3) := by decide +kernel
theorem dX0_init_24 : decode cX0_init 24 = .ok (.iload_n 1, 1) := by decide +kernel
theorem dX0_init_25 : decode cX0_init 25 = .ok (.getstatic 13, 3) := by decide +kernel
theorem dX0_init_28 : decode cX0_init 28 = .ok (.iload_n 1, 1) := by decide +kernel
theorem dX0_init_29 : decode cX0_init 29 = .ok (.iaload, 1) := by decide +kernel
theorem dX0_init_30 : decode cX0_init 30 = .ok (.iastore, 1) := by decide +kernel
theorem dX0_init_31 : decode cX0_init 31 = .ok (.iinc 1 1, 3) := by decide +kernel
theorem dX0_init_34 : decode cX0_init 34 = .ok (.goto (-20), 3) := by decide +kernel
theorem dX0_init_37 : decode cX0_init 37 = .ok (.return_, 1) := by decide +kernel
theorem dX0_become_0 : decode cX0_become 0 = .ok (.iconst 0, 1) := by decide +kernel
theorem dX0_become_1 : decode cX0_become 1 = .ok (.istore_n 2, 1) := by decide +kernel
theorem dX0_become_2 : decode cX0_become 2 = .ok (.iload_n 2, 1) := by decide +kernel
theorem dX0_become_3 : decode cX0_become 3 = .ok (.bipush 9, 2) := by decide +kernel
theorem dX0_become_5 : decode cX0_become 5 = .ok (.if_icmp .ge 18, 3) := by decide +kernel
theorem dX0_become_8 : decode cX0_become 8 = .ok (.aload_n 0, 1) := by decide +kernel
theorem dX0_become_9 : decode cX0_become 9 = .ok (.getfield 9, 3) := by decide +kernel
theorem dX0_become_12 : decode cX0_become 12 = .ok (.iload_n 2, 1) := by decide +kernel
theorem dX0_become_13 : decode cX0_become 13 = .ok (.aload_n 1, 1) := by decide +kernel
theorem dX0_become_14 : decode cX0_become 14 = .ok (.iload_n 2, 1) := by decide +kernel
theorem dX0_become_15 : decode cX0_become 15 = .ok (.iaload, 1) := by decide +kernel
theorem dX0_become_16 : decode cX0_become 16 = .ok (.iastore, 1) := by decide +kernel
theorem dX0_become_17 : decode cX0_become 17 = .ok (.iinc 2 1, 3) := by decide +kernel
theorem dX0_become_20 : decode cX0_become 20 = .ok (.goto (-18), 3) := by decide +kernel
theorem dX0_become_23 : decode cX0_become 23 = .ok (.return_, 1) := by decide +kernel
theorem dX0_horsesTold_0 : decode cX0_horsesTold 0 = .ok (.aload_n 0, 1) := by decide +kernel
theorem dX0_horsesTold_1 : decode cX0_horsesTold 1 = .ok (.getfield 9, 3) := by decide +kernel
theorem dX0_horsesTold_4 : decode cX0_horsesTold 4 = .ok (.iconst 0, 1) := by decide +kernel
theorem dX0_horsesTold_5 : decode cX0_horsesTold 5 = .ok (.iaload, 1) := by decide +kernel
theorem dX0_horsesTold_6 : decode cX0_horsesTold 6 = .ok (.ireturn, 1) := by decide +kernel
theorem dX0_laggardsTold_0 : decode cX0_laggardsTold 0 = .ok (.aload_n 0, 1) := by decide +kernel
theorem dX0_laggardsTold_1 : decode cX0_laggardsTold 1 = .ok (.getfield 9, 3) := by decide +kernel
theorem dX0_laggardsTold_4 : decode cX0_laggardsTold 4 = .ok (.iconst 3, 1) := by decide +kernel
theorem dX0_laggardsTold_5 : decode cX0_laggardsTold 5 = .ok (.iaload, 1) := by decide +kernel
theorem dX0_laggardsTold_6 : decode cX0_laggardsTold 6 = .ok (.ireturn, 1) := by decide +kernel
theorem dX0_gapMinutes_0 : decode cX0_gapMinutes 0 = .ok (.aload_n 0, 1) := by decide +kernel
theorem dX0_gapMinutes_1 : decode cX0_gapMinutes 1 = .ok (.getfield 9, 3) := by decide +kernel
theorem dX0_gapMinutes_4 : decode cX0_gapMinutes 4 = .ok (.iconst 4, 1) := by decide +kernel
theorem dX0_gapMinutes_5 : decode cX0_gapMinutes 5 = .ok (.iaload, 1) := by decide +kernel
theorem dX0_gapMinutes_6 : decode cX0_gapMinutes 6 = .ok (.ireturn, 1) := by decide +kernel
theorem dX0_axeMinutes_0 : decode cX0_axeMinutes 0 = .ok (.aload_n 0, 1) := by decide +kernel
theorem dX0_axeMinutes_1 : decode cX0_axeMinutes 1 = .ok (.getfield 9, 3) := by decide +kernel
theorem dX0_axeMinutes_4 : decode cX0_axeMinutes 4 = .ok (.iconst 5, 1) := by decide +kernel
theorem dX0_axeMinutes_5 : decode cX0_axeMinutes 5 = .ok (.iaload, 1) := by decide +kernel
theorem dX0_axeMinutes_6 : decode cX0_axeMinutes 6 = .ok (.ireturn, 1) := by decide +kernel
theorem dX0_coalDays_0 : decode cX0_coalDays 0 = .ok (.aload_n 0, 1) := by decide +kernel
theorem dX0_coalDays_1 : decode cX0_coalDays 1 = .ok (.getfield 9, 3) := by decide +kernel
theorem dX0_coalDays_4 : decode cX0_coalDays 4 = .ok (.bipush 6, 2) := by decide +kernel
theorem dX0_coalDays_6 : decode cX0_coalDays 6 = .ok (.iaload, 1) := by decide +kernel
theorem dX0_coalDays_7 : decode cX0_coalDays 7 = .ok (.ireturn, 1) := by decide +kernel
theorem dX0_dayCost_0 : decode cX0_dayCost 0 = .ok (.aload_n 0, 1) := by decide +kernel
theorem dX0_dayCost_1 : decode cX0_dayCost 1 = .ok (.getfield 9, 3) := by decide +kernel
theorem dX0_dayCost_4 : decode cX0_dayCost 4 = .ok (.bipush 7, 2) := by decide +kernel
theorem dX0_dayCost_6 : decode cX0_dayCost 6 = .ok (.iaload, 1) := by decide +kernel
theorem dX0_dayCost_7 : decode cX0_dayCost 7 = .ok (.ireturn, 1) := by decide +kernel
theorem dX0_wantCost_0 : decode cX0_wantCost 0 = .ok (.aload_n 0, 1) := by decide +kernel
theorem dX0_wantCost_1 : decode cX0_wantCost 1 = .ok (.getfield 9, 3) := by decide +kernel
theorem dX0_wantCost_4 : decode cX0_wantCost 4 = .ok (.bipush 8, 2) := by decide +kernel
theorem dX0_wantCost_6 : decode cX0_wantCost 6 = .ok (.iaload, 1) := by decide +kernel
theorem dX0_wantCost_7 : decode cX0_wantCost 7 = .ok (.ireturn, 1) := by decide +kernel
theorem dX0_swayBy_0 : decode cX0_swayBy 0 = .ok (.iconst 0, 1) := by decide +kernel
theorem dX0_swayBy_1 : decode cX0_swayBy 1 = .ok (.aload_n 0, 1) := by decide +kernel
theorem dX0_swayBy_2 : decode cX0_swayBy 2 = .ok (.getfield 9, 3) := by decide +kernel
theorem dX0_swayBy_5 : decode cX0_swayBy 5 = .ok (.iconst 1, 1) := by decide +kernel
theorem dX0_swayBy_6 : decode cX0_swayBy 6 = .ok (.iaload, 1) := by decide +kernel
theorem dX0_swayBy_7 : decode cX0_swayBy 7 = .ok (.iload_n 2, 1) := by decide +kernel
theorem dX0_swayBy_8 : decode cX0_swayBy 8 = .ok (.isub, 1) := by decide +kernel
theorem dX0_swayBy_9 : decode cX0_swayBy 9 = .ok (.invokestatic 16, 3) := by decide +kernel
theorem dX0_swayBy_12 : decode cX0_swayBy 12 = .ok (.istore_n 3, 1) := by decide +kernel
theorem dX0_swayBy_13 : decode cX0_swayBy 13 = .ok (.iload_n 1, 1) := by decide +kernel
theorem dX0_swayBy_14 : decode cX0_swayBy 14 = .ok (.aload_n 0, 1) := by decide +kernel
theorem dX0_swayBy_15 : decode cX0_swayBy 15 = .ok (.getfield 9, 3) := by decide +kernel
theorem dX0_swayBy_18 : decode cX0_swayBy 18 = .ok (.iconst 2, 1) := by decide +kernel
theorem dX0_swayBy_19 : decode cX0_swayBy 19 = .ok (.iaload, 1) := by decide +kernel
theorem dX0_swayBy_20 : decode cX0_swayBy 20 = .ok (.isub, 1) := by decide +kernel
theorem dX0_swayBy_21 : decode cX0_swayBy 21 = .ok (.invokestatic 22, 3) := by decide +kernel
theorem dX0_swayBy_24 : decode cX0_swayBy 24 = .ok (.istore 4, 2) := by decide +kernel
theorem dX0_swayBy_26 : decode cX0_swayBy 26 = .ok (.iload_n 3, 1) := by decide +kernel
theorem dX0_swayBy_27 : decode cX0_swayBy 27 = .ok (.iconst 3, 1) := by decide +kernel
theorem dX0_swayBy_28 : decode cX0_swayBy 28 = .ok (.idiv, 1) := by decide +kernel
theorem dX0_swayBy_29 : decode cX0_swayBy 29 = .ok (.istore 5, 2) := by decide +kernel
theorem dX0_swayBy_31 : decode cX0_swayBy 31 = .ok (.iload 4, 2) := by decide +kernel
theorem dX0_swayBy_33 : decode cX0_swayBy 33 = .ok (.ifCond .ne 11, 3) := by decide +kernel
theorem dX0_swayBy_36 : decode cX0_swayBy 36 = .ok (.iconst 3, 1) := by decide +kernel
theorem dX0_swayBy_37 : decode cX0_swayBy 37 = .ok (.iload_n 3, 1) := by decide +kernel
theorem dX0_swayBy_38 : decode cX0_swayBy 38 = .ok (.imul, 1) := by decide +kernel
theorem dX0_swayBy_39 : decode cX0_swayBy 39 = .ok (.istore 5, 2) := by decide +kernel
theorem dX0_swayBy_41 : decode cX0_swayBy 41 = .ok (.goto 12, 3) := by decide +kernel
theorem dX0_swayBy_44 : decode cX0_swayBy 44 = .ok (.iload 4, 2) := by decide +kernel
theorem dX0_swayBy_46 : decode cX0_swayBy 46 = .ok (.iconst 1, 1) := by decide +kernel
theorem dX0_swayBy_47 : decode cX0_swayBy 47 = .ok (.if_icmp .ne 6, 3) := by decide +kernel
theorem dX0_swayBy_50 : decode cX0_swayBy 50 = .ok (.iload_n 3, 1) := by decide +kernel
theorem dX0_swayBy_51 : decode cX0_swayBy 51 = .ok (.istore 5, 2) := by decide +kernel
theorem dX0_swayBy_53 : decode cX0_swayBy 53 = .ok (.iconst 0, 1) := by decide +kernel
theorem dX0_swayBy_54 : decode cX0_swayBy 54 = .ok (.iload 5, 2) := by decide +kernel
theorem dX0_swayBy_56 : decode cX0_swayBy 56 = .ok (.iconst 2, 1) := by decide +kernel
theorem dX0_swayBy_57 : decode cX0_swayBy 57 = .ok (.iload_n 2, 1) := by decide +kernel
theorem dX0_swayBy_58 : decode cX0_swayBy 58 = .ok (.imul, 1) := by decide +kernel
theorem dX0_swayBy_59 : decode cX0_swayBy 59 = .ok (.isub, 1) := by decide +kernel
theorem dX0_swayBy_60 : decode cX0_swayBy 60 = .ok (.invokestatic 16, 3) := by decide +kernel
theorem dX0_swayBy_63 : decode cX0_swayBy 63 = .ok (.ireturn, 1) := by decide +kernel
set_option maxRecDepth 20000 in
theorem ggX0_forceBy_X0_horsesTold : GoodIn wsX0_forceBy wsX0_horsesTold := goodIn_r _ [5, 6, 25] (by decide +kernel) (by decide +kernel)
set_option maxRecDepth 20000 in
theorem gX0_forceBy_X0_horsesTold : GoodIn wsX0_forceBy (wsV RX0 26 RX0 yX0_horsesTold wsX0_horsesTold) := goodIn_app (goodIn_of _ (by decide +kernel)) ggX0_forceBy_X0_horsesTold
set_option maxRecDepth 20000 in
theorem ggX0_forceBy_X0_laggardsTold : GoodIn wsX0_forceBy wsX0_laggardsTold := goodIn_r _ [10, 6, 25] (by decide +kernel) (by decide +kernel)
set_option maxRecDepth 20000 in
theorem gX0_forceBy_X0_laggardsTold : GoodIn wsX0_forceBy (wsV RX0 30 RX0 yX0_laggardsTold wsX0_laggardsTold) := goodIn_app (goodIn_of _ (by decide +kernel)) ggX0_forceBy_X0_laggardsTold
set_option maxRecDepth 20000 in
theorem ggX0_forceBy_X0_swayBy : GoodIn wsX0_forceBy wsX0_swayBy := goodIn_r _ [14, 6, 15, 16, 17, 18, 19, 20, 21, 25] (by decide +kernel) (by decide +kernel)
set_option maxRecDepth 20000 in
theorem gX0_forceBy_X0_swayBy : GoodIn wsX0_forceBy (wsV RX0 33 RX0 yX0_swayBy wsX0_swayBy) := goodIn_app (goodIn_of _ (by decide +kernel)) ggX0_forceBy_X0_swayBy
set_option maxRecDepth 20000 in
theorem ggX0_forceBy_X0_forceOf : GoodIn wsX0_forceBy wsX0_forceOf := goodIn_r _ [24] (by decide +kernel) (by decide +kernel)
set_option maxRecDepth 20000 in
theorem gX0_forceBy_X0_forceOf : GoodIn wsX0_forceBy (va_wsS RX0 36 yX0_forceOf wsX0_forceOf) := goodIn_app (goodIn_of _ (by decide +kernel)) ggX0_forceBy_X0_forceOf
theorem dX0_forceBy_0 : decode cX0_forceBy 0 = .ok (.aload_n 0, 1) := by decide +kernel
theorem dX0_forceBy_1 : decode cX0_forceBy 1 = .ok (.invokevirtual 26, 3) := by decide +kernel
theorem dX0_forceBy_4 : decode cX0_forceBy 4 = .ok (.aload_n 0, 1) := by decide +kernel
theorem dX0_forceBy_5 : decode cX0_forceBy 5 = .ok (.iload_n 1, 1) := by decide +kernel
theorem dX0_forceBy_6 : decode cX0_forceBy 6 = .ok (.aload_n 0, 1) := by decide +kernel
theorem dX0_forceBy_7 : decode cX0_forceBy 7 = .ok (.invokevirtual 30, 3) := by decide +kernel
theorem dX0_forceBy_10 : decode cX0_forceBy 10 = .ok (.invokevirtual 33, 3) := by decide +kernel
theorem dX0_forceBy_13 : decode cX0_forceBy 13 = .ok (.invokestatic 36, 3) := by decide +kernel
theorem dX0_forceBy_16 : decode cX0_forceBy 16 = .ok (.ireturn, 1) := by decide +kernel
theorem dX0_forceOf_0 : decode cX0_forceOf 0 = .ok (.iconst 4, 1) := by decide +kernel
theorem dX0_forceOf_1 : decode cX0_forceOf 1 = .ok (.iload_n 0, 1) := by decide +kernel
theorem dX0_forceOf_2 : decode cX0_forceOf 2 = .ok (.imul, 1) := by decide +kernel
theorem dX0_forceOf_3 : decode cX0_forceOf 3 = .ok (.iload_n 1, 1) := by decide +kernel
theorem dX0_forceOf_4 : decode cX0_forceOf 4 = .ok (.iadd, 1) := by decide +kernel
theorem dX0_forceOf_5 : decode cX0_forceOf 5 = .ok (.ireturn, 1) := by decide +kernel
theorem dX1_init_0 : decode cX1_init 0 = .ok (.aload_n 0, 1) := by decide +kernel
theorem dX1_init_1 : decode cX1_init 1 = .ok (.invokespecial 3, 3) := by decide +kernel
theorem dX1_init_4 : decode cX1_init 4 = .ok (.aload_n 0, 1) := by decide +kernel
theorem dX1_init_5 : decode cX1_init 5 = .ok (.bipush 10, 2) := by decide +kernel
theorem dX1_init_7 : decode cX1_init 7 = .ok (.newarray .int, 2) := by decide +kernel
theorem dX1_init_9 : decode cX1_init 9 = .ok (.putfield 11, 3) := by decide +kernel
theorem dX1_init_12 : decode cX1_init 12 = .ok (.aload_n 0, 1) := by decide +kernel
theorem dX1_init_13 : decode cX1_init 13 = .ok (.bipush 10, 2) := by decide +kernel
theorem dX1_init_15 : decode cX1_init 15 = .ok (.newarray .int, 2) := by decide +kernel
theorem dX1_init_17 : decode cX1_init 17 = .ok (.putfield 15, 3) := by decide +kernel
theorem dX1_init_20 : decode cX1_init 20 = .ok (.aload_n 0, 1) := by decide +kernel
theorem dX1_init_21 : decode cX1_init 21 = .ok (.bipush 10, 2) := by decide +kernel
theorem dX1_init_23 : decode cX1_init 23 = .ok (.newarray .int, 2) := by decide +kernel
theorem dX1_init_25 : decode cX1_init 25 = .ok (.putfield 18, 3) := by decide +kernel
theorem dX1_init_28 : decode cX1_init 28 = .ok (.aload_n 0, 1) := by decide +kernel
theorem dX1_init_29 : decode cX1_init 29 = .ok (.bipush 10, 2) := by decide +kernel
theorem dX1_init_31 : decode cX1_init 31 = .ok (.newarray .int, 2) := by decide +kernel
theorem dX1_init_33 : decode cX1_init 33 = .ok (.putfield 21, 3) := by decide +kernel
theorem dX1_init_36 : decode cX1_init 36 = .ok (.aload_n 0, 1) := by decide +kernel
theorem dX1_init_37 : decode cX1_init 37 = .ok (.bipush 15, 2) := by decide +kernel
theorem dX1_init_39 : decode cX1_init 39 = .ok (.newarray .int, 2) := by decide +kernel
theorem dX1_init_41 : decode cX1_init 41 = .ok (.putfield 24, 3) := by decide +kernel
theorem dX1_init_44 : decode cX1_init 44 = .ok (.aload_n 0, 1) := by decide +kernel
theorem dX1_init_45 : decode cX1_init 45 = .ok (.bipush 15, 2) := by decide +kernel
theorem dX1_init_47 : decode cX1_init 47 = .ok (.newarray .int, 2) := by decide +kernel
theorem dX1_init_49 : decode cX1_init 49 = .ok (.putfield 27, 3) := by decide +kernel
theorem dX1_init_52 : decode cX1_init 52 = .ok (.return_, 1) := by decide +kernel
theorem dX1_clearAll_0 : decode cX1_clearAll 0 = .ok (.aload_n 0, 1) := by decide +kernel
theorem dX1_clearAll_1 : decode cX1_clearAll 1 = .ok (.iconst 0, 1) := by decide +kernel
theorem dX1_clearAll_2 : decode cX1_clearAll 2 = .ok (.putfield 30, 3) := by decide +kernel
theorem dX1_clearAll_5 : decode cX1_clearAll 5 = .ok (.aload_n 0, 1) := by decide +kernel
theorem dX1_clearAll_6 : decode cX1_clearAll 6 = .ok (.iconst 0, 1) := by decide +kernel
theorem dX1_clearAll_7 : decode cX1_clearAll 7 = .ok (.putfield 34, 3) := by decide +kernel
theorem dX1_clearAll_10 : decode cX1_clearAll 10 = .ok (.return_, 1) := by decide +kernel
theorem dX1_addBored_0 : decode cX1_addBored 0 = .ok (.aload_n 0, 1) := by decide +kernel
theorem dX1_addBored_1 : decode cX1_addBored 1 = .ok (.getfield 30, 3) := by decide +kernel
theorem dX1_addBored_4 : decode cX1_addBored 4 = .ok (.bipush 10, 2) := by decide +kernel
theorem dX1_addBored_6 : decode cX1_addBored 6 = .ok (.if_icmp .lt 5, 3) := by decide +kernel
theorem dX1_addBored_9 : decode cX1_addBored 9 = .ok (.iconst 0, 1) := by decide +kernel
theorem dX1_addBored_10 : decode cX1_addBored 10 = .ok (.ireturn, 1) := by decide +kernel
theorem dX1_addBored_11 : decode cX1_addBored 11 = .ok (.aload_n 0, 1) := by decide +kernel
theorem dX1_addBored_12 : decode cX1_addBored 12 = .ok (.getfield 11, 3) := by decide +kernel
theorem dX1_addBored_15 : decode cX1_addBored 15 = .ok (.aload_n 0, 1) := by decide +kernel
theorem dX1_addBored_16 : decode cX1_addBored 16 = .ok (.getfield 30, 3) := by decide +kernel
theorem dX1_addBored_19 : decode cX1_addBored 19 = .ok (.iload_n 1, 1) := by decide +kernel
theorem dX1_addBored_20 : decode cX1_addBored 20 = .ok (.iastore, 1) := by decide +kernel
theorem dX1_addBored_21 : decode cX1_addBored 21 = .ok (.aload_n 0, 1) := by decide +kernel
theorem dX1_addBored_22 : decode cX1_addBored 22 = .ok (.getfield 15, 3) := by decide +kernel
theorem dX1_addBored_25 : decode cX1_addBored 25 = .ok (.aload_n 0, 1) := by decide +kernel
theorem dX1_addBored_26 : decode cX1_addBored 26 = .ok (.getfield 30, 3) := by decide +kernel
theorem dX1_addBored_29 : decode cX1_addBored 29 = .ok (.iload_n 2, 1) := by decide +kernel
theorem dX1_addBored_30 : decode cX1_addBored 30 = .ok (.iastore, 1) := by decide +kernel
theorem dX1_addBored_31 : decode cX1_addBored 31 = .ok (.aload_n 0, 1) := by decide +kernel
theorem dX1_addBored_32 : decode cX1_addBored 32 = .ok (.getfield 18, 3) := by decide +kernel
theorem dX1_addBored_35 : decode cX1_addBored 35 = .ok (.aload_n 0, 1) := by decide +kernel
theorem dX1_addBored_36 : decode cX1_addBored 36 = .ok (.getfield 30, 3) := by decide +kernel
theorem dX1_addBored_39 : decode cX1_addBored 39 = .ok (.iload_n 3, 1) := by decide +kernel
theorem dX1_addBored_40 : decode cX1_addBored 40 = .ok (.iastore, 1) := by decide +kernel
theorem dX1_addBored_41 : decode cX1_addBored 41 = .ok (.aload_n 0, 1) := by decide +kernel
theorem dX1_addBored_42 : decode cX1_addBored 42 = .ok (.getfield 21, 3) := by decide +kernel
theorem dX1_addBored_45 : decode cX1_addBored 45 = .ok (.aload_n 0, 1) := by decide +kernel
theorem dX1_addBored_46 : decode cX1_addBored 46 = .ok (.getfield 30, 3) := by decide +kernel
theorem dX1_addBored_49 : decode cX1_addBored 49 = .ok (.iload 4, 2) := by decide +kernel
theorem dX1_addBored_51 : decode cX1_addBored 51 = .ok (.iastore, 1) := by decide +kernel
theorem dX1_addBored_52 : decode cX1_addBored 52 = .ok (.aload_n 0, 1) := by decide +kernel
theorem dX1_addBored_53 : decode cX1_addBored 53 = .ok (.dup, 1) := by decide +kernel
theorem dX1_addBored_54 : decode cX1_addBored 54 = .ok (.getfield 30, 3) := by decide +kernel
theorem dX1_addBored_57 : decode cX1_addBored 57 = .ok (.iconst 1, 1) := by decide +kernel
theorem dX1_addBored_58 : decode cX1_addBored 58 = .ok (.iadd, 1) := by decide +kernel
theorem dX1_addBored_59 : decode cX1_addBored 59 = .ok (.putfield 30, 3) := by decide +kernel
theorem dX1_addBored_62 : decode cX1_addBored 62 = .ok (.iconst 1, 1) := by decide +kernel
theorem dX1_addBored_63 : decode cX1_addBored 63 = .ok (.ireturn, 1) := by decide +kernel
theorem dX1_addEntry_0 : decode cX1_addEntry 0 = .ok (.aload_n 0, 1) := by decide +kernel
theorem dX1_addEntry_1 : decode cX1_addEntry 1 = .ok (.getfield 34, 3) := by decide +kernel
theorem dX1_addEntry_4 : decode cX1_addEntry 4 = .ok (.bipush 15, 2) := by decide +kernel
theorem dX1_addEntry_6 : decode cX1_addEntry 6 = .ok (.if_icmp .lt 5, 3) := by decide +kernel
theorem dX1_addEntry_9 : decode cX1_addEntry 9 = .ok (.iconst 0, 1) := by decide +kernel
theorem dX1_addEntry_10 : decode cX1_addEntry 10 = .ok (.ireturn, 1) := by decide +kernel
theorem dX1_addEntry_11 : decode cX1_addEntry 11 = .ok (.aload_n 0, 1) := by decide +kernel
theorem dX1_addEntry_12 : decode cX1_addEntry 12 = .ok (.getfield 24, 3) := by decide +kernel
theorem dX1_addEntry_15 : decode cX1_addEntry 15 = .ok (.aload_n 0, 1) := by decide +kernel
theorem dX1_addEntry_16 : decode cX1_addEntry 16 = .ok (.getfield 34, 3) := by decide +kernel
theorem dX1_addEntry_19 : decode cX1_addEntry 19 = .ok (.iload_n 1, 1) := by decide +kernel
theorem dX1_addEntry_20 : decode cX1_addEntry 20 = .ok (.iastore, 1) := by decide +kernel
theorem dX1_addEntry_21 : decode cX1_addEntry 21 = .ok (.aload_n 0, 1) := by decide +kernel
theorem dX1_addEntry_22 : decode cX1_addEntry 22 = .ok (.getfield 27, 3) := by decide +kernel
theorem dX1_addEntry_25 : decode cX1_addEntry 25 = .ok (.aload_n 0, 1) := by decide +kernel
theorem dX1_addEntry_26 : decode cX1_addEntry 26 = .ok (.getfield 34, 3) := by decide +kernel
theorem dX1_addEntry_29 : decode cX1_addEntry 29 = .ok (.iload_n 2, 1) := by decide +kernel
theorem dX1_addEntry_30 : decode cX1_addEntry 30 = .ok (.iastore, 1) := by decide +kernel
theorem dX1_addEntry_31 : decode cX1_addEntry 31 = .ok (.aload_n 0, 1) := by decide +kernel
theorem dX1_addEntry_32 : decode cX1_addEntry 32 = .ok (.dup, 1) := by decide +kernel
theorem dX1_addEntry_33 : decode cX1_addEntry 33 = .ok (.getfield 34, 3) := by decide +kernel
theorem dX1_addEntry_36 : decode cX1_addEntry 36 = .ok (.iconst 1, 1) := by decide +kernel
theorem dX1_addEntry_37 : decode cX1_addEntry 37 = .ok (.iadd, 1) := by decide +kernel
theorem dX1_addEntry_38 : decode cX1_addEntry 38 = .ok (.putfield 34, 3) := by decide +kernel
theorem dX1_addEntry_41 : decode cX1_addEntry 41 = .ok (.iconst 1, 1) := by decide +kernel
theorem dX1_addEntry_42 : decode cX1_addEntry 42 = .ok (.ireturn, 1) := by decide +kernel
set_option maxRecDepth 20000 in
theorem ggX1_fits_X6_iceIfOf : GoodIn wsX1_fits wsX6_iceIfOf := goodIn_r _ [10, 11, 12, 13, 14, 15, 9, 16, 17, 18, 19, 20, 21, 22, 23, 24, 25, 26, 27, 28, 29, 30, 39, 40, 41, 42, 43] (by decide +kernel) (by decide +kernel)
set_option maxRecDepth 20000 in
theorem gX1_fits_X6_iceIfOf : GoodIn wsX1_fits (wsV RX1 37 RX6 yX6_iceIfOf wsX6_iceIfOf) := goodIn_app (goodIn_of _ (by decide +kernel)) ggX1_fits_X6_iceIfOf
theorem dX1_fits_0 : decode cX1_fits 0 = .ok (.iconst 0, 1) := by decide +kernel
theorem dX1_fits_1 : decode cX1_fits 1 = .ok (.istore 4, 2) := by decide +kernel
theorem dX1_fits_3 : decode cX1_fits 3 = .ok (.iload 4, 2) := by decide +kernel
theorem dX1_fits_5 : decode cX1_fits 5 = .ok (.aload_n 0, 1) := by decide +kernel
theorem dX1_fits_6 : decode cX1_fits 6 = .ok (.getfield 30, 3) := by decide +kernel
theorem dX1_fits_9 : decode cX1_fits 9 = .ok (.if_icmp .ge 52, 3) := by decide +kernel
theorem dX1_fits_12 : decode cX1_fits 12 = .ok (.aload_n 0, 1) := by decide +kernel
theorem dX1_fits_13 : decode cX1_fits 13 = .ok (.getfield 11, 3) := by decide +kernel
theorem dX1_fits_16 : decode cX1_fits 16 = .ok (.iload 4, 2) := by decide +kernel
theorem dX1_fits_18 : decode cX1_fits 18 = .ok (.iaload, 1) := by decide +kernel
theorem dX1_fits_19 : decode cX1_fits 19 = .ok (.iload_n 2, 1) := by decide +kernel
theorem dX1_fits_20 : decode cX1_fits 20 = .ok (.if_icmp .ne 35, 3) := by decide +kernel
theorem dX1_fits_23 : decode cX1_fits 23 = .ok (.aload_n 1, 1) := by decide +kernel
theorem dX1_fits_24 : decode cX1_fits 24 = .ok (.iload_n 3, 1) := by decide +kernel
theorem dX1_fits_25 : decode cX1_fits 25 = .ok (.iload_n 2, 1) := by decide +kernel
theorem dX1_fits_26 : decode cX1_fits 26 = .ok (.aload_n 0, 1) := by decide +kernel
theorem dX1_fits_27 : decode cX1_fits 27 = .ok (.getfield 15, 3) := by decide +kernel
theorem dX1_fits_30 : decode cX1_fits 30 = .ok (.iload 4, 2) := by decide +kernel
theorem dX1_fits_32 : decode cX1_fits 32 = .ok (.iaload, 1) := by decide +kernel
theorem dX1_fits_33 : decode cX1_fits 33 = .ok (.aload_n 0, 1) := by decide +kernel
theorem dX1_fits_34 : decode cX1_fits 34 = .ok (.getfield 18, 3) := by decide +kernel
theorem dX1_fits_37 : decode cX1_fits 37 = .ok (.iload 4, 2) := by decide +kernel
theorem dX1_fits_39 : decode cX1_fits 39 = .ok (.iaload, 1) := by decide +kernel
theorem dX1_fits_40 : decode cX1_fits 40 = .ok (.invokevirtual 37, 3) := by decide +kernel
theorem dX1_fits_43 : decode cX1_fits 43 = .ok (.aload_n 0, 1) := by decide +kernel
theorem dX1_fits_44 : decode cX1_fits 44 = .ok (.getfield 21, 3) := by decide +kernel
theorem dX1_fits_47 : decode cX1_fits 47 = .ok (.iload 4, 2) := by decide +kernel
theorem dX1_fits_49 : decode cX1_fits 49 = .ok (.iaload, 1) := by decide +kernel
theorem dX1_fits_50 : decode cX1_fits 50 = .ok (.if_icmp .eq 5, 3) := by decide +kernel
theorem dX1_fits_53 : decode cX1_fits 53 = .ok (.iconst 0, 1) := by decide +kernel
theorem dX1_fits_54 : decode cX1_fits 54 = .ok (.ireturn, 1) := by decide +kernel
theorem dX1_fits_55 : decode cX1_fits 55 = .ok (.iinc 4 1, 3) := by decide +kernel
theorem dX1_fits_58 : decode cX1_fits 58 = .ok (.goto (-55), 3) := by decide +kernel
theorem dX1_fits_61 : decode cX1_fits 61 = .ok (.iconst 1, 1) := by decide +kernel
theorem dX1_fits_62 : decode cX1_fits 62 = .ok (.ireturn, 1) := by decide +kernel
set_option maxRecDepth 20000 in
theorem ggX1_firstWrong_X6_has : GoodIn wsX1_firstWrong wsX6_has := goodIn_r _ [9, 10, 19, 20, 21, 22, 23] (by decide +kernel) (by decide +kernel)
set_option maxRecDepth 20000 in
theorem gX1_firstWrong_X6_has : GoodIn wsX1_firstWrong (wsV RX1 43 RX6 yX6_has wsX6_has) := goodIn_app (goodIn_of _ (by decide +kernel)) ggX1_firstWrong_X6_has
theorem dX1_firstWrong_0 : decode cX1_firstWrong 0 = .ok (.iconst 0, 1) := by decide +kernel
theorem dX1_firstWrong_1 : decode cX1_firstWrong 1 = .ok (.istore_n 2, 1) := by decide +kernel
theorem dX1_firstWrong_2 : decode cX1_firstWrong 2 = .ok (.iload_n 2, 1) := by decide +kernel
theorem dX1_firstWrong_3 : decode cX1_firstWrong 3 = .ok (.aload_n 0, 1) := by decide +kernel
theorem dX1_firstWrong_4 : decode cX1_firstWrong 4 = .ok (.getfield 34, 3) := by decide +kernel
theorem dX1_firstWrong_7 : decode cX1_firstWrong 7 = .ok (.if_icmp .ge 41, 3) := by decide +kernel
theorem dX1_firstWrong_10 : decode cX1_firstWrong 10 = .ok (.aload_n 0, 1) := by decide +kernel
theorem dX1_firstWrong_11 : decode cX1_firstWrong 11 = .ok (.getfield 24, 3) := by decide +kernel
theorem dX1_firstWrong_14 : decode cX1_firstWrong 14 = .ok (.iload_n 2, 1) := by decide +kernel
theorem dX1_firstWrong_15 : decode cX1_firstWrong 15 = .ok (.iaload, 1) := by decide +kernel
theorem dX1_firstWrong_16 : decode cX1_firstWrong 16 = .ok (.istore_n 3, 1) := by decide +kernel
theorem dX1_firstWrong_17 : decode cX1_firstWrong 17 = .ok (.aload_n 1, 1) := by decide +kernel
theorem dX1_firstWrong_18 : decode cX1_firstWrong 18 = .ok (.iload_n 3, 1) := by decide +kernel
theorem dX1_firstWrong_19 : decode cX1_firstWrong 19 = .ok (.invokevirtual 43, 3) := by decide +kernel
theorem dX1_firstWrong_22 : decode cX1_firstWrong 22 = .ok (.ifCond .eq 20, 3) := by decide +kernel
theorem dX1_firstWrong_25 : decode cX1_firstWrong 25 = .ok (.aload_n 1, 1) := by decide +kernel
theorem dX1_firstWrong_26 : decode cX1_firstWrong 26 = .ok (.getfield 47, 3) := by decide +kernel
theorem dX1_firstWrong_29 : decode cX1_firstWrong 29 = .ok (.iload_n 3, 1) := by decide +kernel
theorem dX1_firstWrong_30 : decode cX1_firstWrong 30 = .ok (.iaload, 1) := by decide +kernel
theorem dX1_firstWrong_31 : decode cX1_firstWrong 31 = .ok (.aload_n 0, 1) := by decide +kernel
theorem dX1_firstWrong_32 : decode cX1_firstWrong 32 = .ok (.getfield 27, 3) := by decide +kernel
theorem dX1_firstWrong_35 : decode cX1_firstWrong 35 = .ok (.iload_n 2, 1) := by decide +kernel
theorem dX1_firstWrong_36 : decode cX1_firstWrong 36 = .ok (.iaload, 1) := by decide +kernel
theorem dX1_firstWrong_37 : decode cX1_firstWrong 37 = .ok (.if_icmp .eq 5, 3) := by decide +kernel
theorem dX1_firstWrong_40 : decode cX1_firstWrong 40 = .ok (.iload_n 2, 1) := by decide +kernel
theorem dX1_firstWrong_41 : decode cX1_firstWrong 41 = .ok (.ireturn, 1) := by decide +kernel
theorem dX1_firstWrong_42 : decode cX1_firstWrong 42 = .ok (.iinc 2 1, 3) := by decide +kernel
theorem dX1_firstWrong_45 : decode cX1_firstWrong 45 = .ok (.goto (-43), 3) := by decide +kernel
theorem dX1_firstWrong_48 : decode cX1_firstWrong 48 = .ok (.iconst (-1), 1) := by decide +kernel
theorem dX1_firstWrong_49 : decode cX1_firstWrong 49 = .ok (.ireturn, 1) := by decide +kernel
set_option maxRecDepth 20000 in
theorem ggX2_init_X4_init : GoodIn wsX2_init wsX4_init := goodIn_r _ [13, 14, 2, 3, 15, 16, 23, 24, 25, 26] (by decide +kernel) (by decide +kernel)
set_option maxRecDepth 20000 in
theorem gX2_init_X4_init_n11 : GoodIn wsX2_init (wsX4_init) := ggX2_init_X4_init
set_option maxRecDepth 20000 in
theorem ggX2_init_X6_init : GoodIn wsX2_init wsX6_init := goodIn_r _ [18, 19, 2, 3, 15, 20, 21, 22, 41, 42, 43, 44, 45] (by decide +kernel) (by decide +kernel)
set_option maxRecDepth 20000 in
theorem gX2_init_X6_init_n24 : GoodIn wsX2_init (wsX6_init) := ggX2_init_X6_init
theorem dX2_init_0 : decode cX2_init 0 = .ok (.aload_n 0, 1) := by decide +kernel
theorem dX2_init_1 : decode cX2_init 1 = .ok (.invokespecial 3, 3) := by decide +kernel
theorem dX2_init_4 : decode cX2_init 4 = .ok (.aload_n 0, 1) := by decide +kernel
theorem dX2_init_5 : decode cX2_init 5 = .ok (.new 9, 3) := by decide +kernel
theorem dX2_init_8 : decode cX2_init 8 = .ok (.dup, 1) := by decide +kernel
theorem dX2_init_9 : decode cX2_init 9 = .ok (.invokespecial 11, 3) := by decide +kernel
theorem dX2_init_12 : decode cX2_init 12 = .ok (.putfield 12, 3) := by decide +kernel
theorem dX2_init_15 : decode cX2_init 15 = .ok (.aload_n 0, 1) := by decide +kernel
theorem dX2_init_16 : decode cX2_init 16 = .ok (.bipush 9, 2) := by decide +kernel
theorem dX2_init_18 : decode cX2_init 18 = .ok (.anewarray 18, 3) := by decide +kernel
theorem dX2_init_21 : decode cX2_init 21 = .ok (.putfield 20, 3) := by decide +kernel
theorem dX2_init_24 : decode cX2_init 24 = .ok (.iconst 0, 1) := by decide +kernel
theorem dX2_init_25 : decode cX2_init 25 = .ok (.istore_n 1, 1) := by decide +kernel
theorem dX2_init_26 : decode cX2_init 26 = .ok (.iload_n 1, 1) := by decide +kernel
theorem dX2_init_27 : decode cX2_init 27 = .ok (.bipush 8, 2) := by decide +kernel
theorem dX2_init_29 : decode cX2_init 29 = .ok (.if_icmp .gt 22, 3) := by decide +kernel
theorem dX2_init_32 : decode cX2_init 32 = .ok (.aload_n 0, 1) := by decide +kernel
theorem dX2_init_33 : decode cX2_init 33 = .ok (.getfield 20, 3) := by decide +kernel
theorem dX2_init_36 : decode cX2_init 36 = .ok (.iload_n 1, 1) := by decide +kernel
theorem dX2_init_37 : decode cX2_init 37 = .ok (.new 18, 3) := by decide +kernel
theorem dX2_init_40 : decode cX2_init 40 = .ok (.dup, 1) := by decide +kernel
theorem dX2_init_41 : decode cX2_init 41 = .ok (.invokespecial 24, 3) := by decide +kernel
theorem dX2_init_44 : decode cX2_init 44 = .ok (.aastore, 1) := by decide +kernel
theorem dX2_init_45 : decode cX2_init 45 = .ok (.iinc 1 1, 3) := by decide +kernel
theorem dX2_init_48 : decode cX2_init 48 = .ok (.goto (-22), 3) := by decide +kernel
theorem dX2_init_51 : decode cX2_init 51 = .ok (.return_, 1) := by decide +kernel
set_option maxRecDepth 20000 in
theorem ggX2_start_X6_copyFrom : GoodIn wsX2_start wsX6_copyFrom := goodIn_r _ [16, 17, 18, 19, 20, 21, 71, 72, 73, 74, 75] (by decide +kernel) (by decide +kernel)
set_option maxRecDepth 20000 in
theorem gX2_start_X6_copyFrom : GoodIn wsX2_start (wsV RX2 31 RX6 yX6_copyFrom wsX6_copyFrom) := goodIn_app (goodIn_of _ (by decide +kernel)) ggX2_start_X6_copyFrom
set_option maxRecDepth 20000 in
theorem ggX2_start_X0_forceBy : GoodIn wsX2_start wsX0_forceBy := goodIn_r _ [26, 27, 28, 29, 25, 30, 31, 32, 33, 34, 35, 36, 37, 38, 39, 40, 41, 5, 42, 43, 44, 45, 46, 47, 48, 76] (by decide +kernel) (by decide +kernel)
set_option maxRecDepth 20000 in
theorem gX2_start_X0_forceBy : GoodIn wsX2_start (wsV RX2 51 RX0 yX0_forceBy wsX0_forceBy) := goodIn_app (goodIn_of _ (by decide +kernel)) ggX2_start_X0_forceBy
set_option maxRecDepth 20000 in
theorem ggX2_start_X0_axeMinutes : GoodIn wsX2_start wsX0_axeMinutes := goodIn_r _ [52, 31, 76] (by decide +kernel) (by decide +kernel)
set_option maxRecDepth 20000 in
theorem gX2_start_X0_axeMinutes : GoodIn wsX2_start (wsV RX2 60 RX0 yX0_axeMinutes wsX0_axeMinutes) := goodIn_app (goodIn_of _ (by decide +kernel)) ggX2_start_X0_axeMinutes
theorem dX2_start_0 : decode cX2_start 0 = .ok (.aload_n 0, 1) := by decide +kernel
theorem dX2_start_1 : decode cX2_start 1 = .ok (.getfield 20, 3) := by decide +kernel
theorem dX2_start_4 : decode cX2_start 4 = .ok (.iconst 0, 1) := by decide +kernel
theorem dX2_start_5 : decode cX2_start 5 = .ok (.aaload, 1) := by decide +kernel
theorem dX2_start_6 : decode cX2_start 6 = .ok (.aload_n 1, 1) := by decide +kernel
theorem dX2_start_7 : decode cX2_start 7 = .ok (.getfield 25, 3) := by decide +kernel
theorem dX2_start_10 : decode cX2_start 10 = .ok (.invokevirtual 31, 3) := by decide +kernel
theorem dX2_start_13 : decode cX2_start 13 = .ok (.aload_n 0, 1) := by decide +kernel
theorem dX2_start_14 : decode cX2_start 14 = .ok (.bipush 8, 2) := by decide +kernel
theorem dX2_start_16 : decode cX2_start 16 = .ok (.iload_n 3, 1) := by decide +kernel
theorem dX2_start_17 : decode cX2_start 17 = .ok (.invokestatic 35, 3) := by decide +kernel
theorem dX2_start_20 : decode cX2_start 20 = .ok (.putfield 41, 3) := by decide +kernel
theorem dX2_start_23 : decode cX2_start 23 = .ok (.aload_n 0, 1) := by decide +kernel
theorem dX2_start_24 : decode cX2_start 24 = .ok (.iload 4, 2) := by decide +kernel
theorem dX2_start_26 : decode cX2_start 26 = .ok (.putfield 45, 3) := by decide +kernel
theorem dX2_start_29 : decode cX2_start 29 = .ok (.aload_n 0, 1) := by decide +kernel
theorem dX2_start_30 : decode cX2_start 30 = .ok (.aload_n 2, 1) := by decide +kernel
theorem dX2_start_31 : decode cX2_start 31 = .ok (.aload_n 1, 1) := by decide +kernel
theorem dX2_start_32 : decode cX2_start 32 = .ok (.getfield 48, 3) := by decide +kernel
theorem dX2_start_35 : decode cX2_start 35 = .ok (.invokevirtual 51, 3) := by decide +kernel
theorem dX2_start_38 : decode cX2_start 38 = .ok (.putfield 57, 3) := by decide +kernel
theorem dX2_start_41 : decode cX2_start 41 = .ok (.aload_n 0, 1) := by decide +kernel
theorem dX2_start_42 : decode cX2_start 42 = .ok (.aload_n 2, 1) := by decide +kernel
theorem dX2_start_43 : decode cX2_start 43 = .ok (.invokevirtual 60, 3) := by decide +kernel
theorem dX2_start_46 : decode cX2_start 46 = .ok (.putfield 64, 3) := by decide +kernel
theorem dX2_start_49 : decode cX2_start 49 = .ok (.return_, 1) := by decide +kernel
set_option maxRecDepth 20000 in
theorem ggX2_findPlan_X0_coalDays : GoodIn wsX2_findPlan wsX0_coalDays := goodIn_r _ [12, 13, 113] (by decide +kernel) (by decide +kernel)
set_option maxRecDepth 20000 in
theorem gX2_findPlan_X0_coalDays : GoodIn wsX2_findPlan (wsV RX2 70 RX0 yX0_coalDays wsX0_coalDays) := goodIn_app (goodIn_of _ (by decide +kernel)) ggX2_findPlan_X0_coalDays
set_option maxRecDepth 20000 in
theorem ggX2_findPlan_X0_dayCost : GoodIn wsX2_findPlan wsX0_dayCost := goodIn_r _ [17, 13, 113] (by decide +kernel) (by decide +kernel)
set_option maxRecDepth 20000 in
theorem gX2_findPlan_X0_dayCost : GoodIn wsX2_findPlan (wsV RX2 75 RX0 yX0_dayCost wsX0_dayCost) := goodIn_app (goodIn_of _ (by decide +kernel)) ggX2_findPlan_X0_dayCost
set_option maxRecDepth 20000 in
theorem ggX2_findPlan_X0_wantCost : GoodIn wsX2_findPlan wsX0_wantCost := goodIn_r _ [21, 13, 113] (by decide +kernel) (by decide +kernel)
set_option maxRecDepth 20000 in
theorem gX2_findPlan_X0_wantCost : GoodIn wsX2_findPlan (wsV RX2 80 RX0 yX0_wantCost wsX0_wantCost) := goodIn_app (goodIn_of _ (by decide +kernel)) ggX2_findPlan_X0_wantCost
set_option maxRecDepth 20000 in
theorem ggX2_findPlan_X2_tryDay : GoodIn wsX2_findPlan wsX2_tryDay := goodIn_r _ [26, 6, 27, 28, 29, 30, 31, 4, 32, 1, 33, 34, 35, 36, 37, 2, 3, 38, 39, 40, 25, 41, 7, 42, 43, 44, 45, 46, 47, 48, 49, 50, 51, 52, 53, 54, 55, 56, 57, 58, 59, 60, 61, 62, 63, 64, 65, 66, 67, 68, 69, 70, 71, 72, 73, 74, 75, 22, 23, 24, 76, 77, 78, 79, 80, 81, 82, 83, 84, 85, 86, 87, 88, 89, 90, 91, 92, 93, 94, 95, 96, 97, 98, 99, 100, 101, 102, 103, 104, 105, 106, 107, 108, 109, 110, 111, 112, 114, 115, 116, 117, 118, 119, 120, 121, 122] (by decide +kernel) (by decide +kernel)
set_option maxRecDepth 20000 in
theorem gX2_findPlan_X2_tryDay : GoodIn wsX2_findPlan (wsV RX2 92 RX2 yX2_tryDay wsX2_tryDay) := goodIn_app (goodIn_of _ (by decide +kernel)) ggX2_findPlan_X2_tryDay
theorem dX2_findPlan_0 : decode cX2_findPlan 0 = .ok (.aload_n 0, 1) := by decide +kernel
theorem dX2_findPlan_1 : decode cX2_findPlan 1 = .ok (.iload_n 2, 1) := by decide +kernel
theorem dX2_findPlan_2 : decode cX2_findPlan 2 = .ok (.putfield 67, 3) := by decide +kernel
theorem dX2_findPlan_5 : decode cX2_findPlan 5 = .ok (.aload_n 0, 1) := by decide +kernel
theorem dX2_findPlan_6 : decode cX2_findPlan 6 = .ok (.aload_n 1, 1) := by decide +kernel
theorem dX2_findPlan_7 : decode cX2_findPlan 7 = .ok (.invokevirtual 70, 3) := by decide +kernel
theorem dX2_findPlan_10 : decode cX2_findPlan 10 = .ok (.putfield 73, 3) := by decide +kernel
theorem dX2_findPlan_13 : decode cX2_findPlan 13 = .ok (.aload_n 0, 1) := by decide +kernel
theorem dX2_findPlan_14 : decode cX2_findPlan 14 = .ok (.aload_n 1, 1) := by decide +kernel
theorem dX2_findPlan_15 : decode cX2_findPlan 15 = .ok (.invokevirtual 75, 3) := by decide +kernel
theorem dX2_findPlan_18 : decode cX2_findPlan 18 = .ok (.putfield 78, 3) := by decide +kernel
theorem dX2_findPlan_21 : decode cX2_findPlan 21 = .ok (.aload_n 0, 1) := by decide +kernel
theorem dX2_findPlan_22 : decode cX2_findPlan 22 = .ok (.aload_n 1, 1) := by decide +kernel
theorem dX2_findPlan_23 : decode cX2_findPlan 23 = .ok (.invokevirtual 80, 3) := by decide +kernel
theorem dX2_findPlan_26 : decode cX2_findPlan 26 = .ok (.putfield 83, 3) := by decide +kernel
theorem dX2_findPlan_29 : decode cX2_findPlan 29 = .ok (.aload_n 0, 1) := by decide +kernel
theorem dX2_findPlan_30 : decode cX2_findPlan 30 = .ok (.ldc 85, 2) := by decide +kernel
theorem dX2_findPlan_32 : decode cX2_findPlan 32 = .ok (.putfield 86, 3) := by decide +kernel
theorem dX2_findPlan_35 : decode cX2_findPlan 35 = .ok (.aload_n 0, 1) := by decide +kernel
theorem dX2_findPlan_36 : decode cX2_findPlan 36 = .ok (.iconst 0, 1) := by decide +kernel
theorem dX2_findPlan_37 : decode cX2_findPlan 37 = .ok (.putfield 89, 3) := by decide +kernel
theorem dX2_findPlan_40 : decode cX2_findPlan 40 = .ok (.aload_n 0, 1) := by decide +kernel
theorem dX2_findPlan_41 : decode cX2_findPlan 41 = .ok (.iconst 0, 1) := by decide +kernel
theorem dX2_findPlan_42 : decode cX2_findPlan 42 = .ok (.aload_n 0, 1) := by decide +kernel
theorem dX2_findPlan_43 : decode cX2_findPlan 43 = .ok (.getfield 73, 3) := by decide +kernel
theorem dX2_findPlan_46 : decode cX2_findPlan 46 = .ok (.iconst 0, 1) := by decide +kernel
theorem dX2_findPlan_47 : decode cX2_findPlan 47 = .ok (.iconst 0, 1) := by decide +kernel
theorem dX2_findPlan_48 : decode cX2_findPlan 48 = .ok (.invokevirtual 92, 3) := by decide +kernel
theorem dX2_findPlan_51 : decode cX2_findPlan 51 = .ok (.return_, 1) := by decide +kernel
set_option maxRecDepth 20000 in
theorem ggX2_tryDay_X2_takeIfBetter : GoodIn wsX2_tryDay wsX2_takeIfBetter := goodIn_r _ [21, 1, 22, 83, 84, 85, 86, 87, 88, 89, 90, 91, 92, 93, 94, 95, 96] (by decide +kernel) (by decide +kernel)
set_option maxRecDepth 20000 in
theorem gX2_tryDay_X2_takeIfBetter : GoodIn wsX2_tryDay (wsV RX2 96 RX2 yX2_takeIfBetter wsX2_takeIfBetter) := goodIn_app (goodIn_of _ (by decide +kernel)) ggX2_tryDay_X2_takeIfBetter
set_option maxRecDepth 20000 in
theorem ggX2_tryDay_X6_copyFrom : GoodIn wsX2_tryDay wsX6_copyFrom := goodIn_r _ [27, 28, 29, 30, 31, 32, 101, 102, 103, 104, 105] (by decide +kernel) (by decide +kernel)
set_option maxRecDepth 20000 in
theorem gX2_tryDay_X6_copyFrom : GoodIn wsX2_tryDay (wsV RX2 31 RX6 yX6_copyFrom wsX6_copyFrom) := goodIn_app (goodIn_of _ (by decide +kernel)) ggX2_tryDay_X6_copyFrom
set_option maxRecDepth 20000 in
theorem ggX2_tryDay_X6_freeze : GoodIn wsX2_tryDay wsX6_freeze := goodIn_r _ [36, 28, 31, 30, 37, 38, 39, 26, 40, 29, 32, 41, 42, 43, 44, 45, 46, 47, 48, 49, 50, 51, 52, 5, 53, 54, 55, 56, 101, 102, 103, 104, 105] (by decide +kernel) (by decide +kernel)
set_option maxRecDepth 20000 in
theorem gX2_tryDay_X6_freeze : GoodIn wsX2_tryDay (wsV RX2 103 RX6 yX6_freeze wsX6_freeze) := goodIn_app (goodIn_of _ (by decide +kernel)) ggX2_tryDay_X6_freeze
set_option maxRecDepth 20000 in
theorem ggX2_tryDay_X2_tryDay : GoodIn wsX2_tryDay wsX2_tryDay := goodIn_r _ [0, 1, 2, 3, 4, 5, 6, 7, 8, 9, 10, 11, 12, 13, 14, 15, 16, 17, 18, 19, 20, 21, 22, 23, 24, 25, 26, 27, 28, 29, 30, 31, 32, 33, 34, 35, 36, 37, 38, 39, 40, 41, 42, 43, 44, 45, 46, 47, 48, 49, 50, 51, 52, 53, 54, 55, 56, 57, 58, 59, 60, 61, 62, 63, 64, 65, 66, 67, 68, 69, 70, 71, 72, 73, 74, 75, 76, 77, 78, 79, 80, 81, 82, 83, 84, 85, 86, 87, 88, 89, 90, 91, 92, 93, 94, 95, 96, 97, 98, 99, 100, 101, 102, 103, 104, 105] (by decide +kernel) (by decide +kernel)
set_option maxRecDepth 20000 in
theorem gX2_tryDay_X2_tryDay : GoodIn wsX2_tryDay (wsV RX2 92 RX2 yX2_tryDay wsX2_tryDay) := goodIn_app (goodIn_of _ (by decide +kernel)) ggX2_tryDay_X2_tryDay
set_option maxRecDepth 20000 in
theorem ggX2_tryDay_X4_passes : GoodIn wsX2_tryDay wsX4_passes := goodIn_r _ [64, 65, 66, 67, 68, 69, 63, 70, 71, 72, 73, 74, 75, 76, 77, 78, 97, 98, 99, 100, 101, 102, 103, 104, 105] (by decide +kernel) (by decide +kernel)
set_option maxRecDepth 20000 in
theorem gX2_tryDay_X4_passes : GoodIn wsX2_tryDay (wsV RX2 107 RX4 yX4_passes wsX4_passes) := goodIn_app (goodIn_of _ (by decide +kernel)) ggX2_tryDay_X4_passes
set_option maxRecDepth 20000 in
theorem ggX2_tryDay_X6_openFirst : GoodIn wsX2_tryDay wsX6_openFirst := goodIn_r _ [82, 28, 31, 29, 32, 101, 102, 103, 104, 105] (by decide +kernel) (by decide +kernel)
set_option maxRecDepth 20000 in
theorem gX2_tryDay_X6_openFirst : GoodIn wsX2_tryDay (wsV RX2 114 RX6 yX6_openFirst wsX6_openFirst) := goodIn_app (goodIn_of _ (by decide +kernel)) ggX2_tryDay_X6_openFirst
theorem dX2_tryDay_0 : decode cX2_tryDay 0 = .ok (.iload_n 3, 1) := by decide +kernel
theorem dX2_tryDay_1 : decode cX2_tryDay 1 = .ok (.aload_n 0, 1) := by decide +kernel
theorem dX2_tryDay_2 : decode cX2_tryDay 2 = .ok (.getfield 86, 3) := by decide +kernel
theorem dX2_tryDay_5 : decode cX2_tryDay 5 = .ok (.if_icmp .le 4, 3) := by decide +kernel
theorem dX2_tryDay_8 : decode cX2_tryDay 8 = .ok (.return_, 1) := by decide +kernel
theorem dX2_tryDay_9 : decode cX2_tryDay 9 = .ok (.iload_n 1, 1) := by decide +kernel
theorem dX2_tryDay_10 : decode cX2_tryDay 10 = .ok (.aload_n 0, 1) := by decide +kernel
theorem dX2_tryDay_11 : decode cX2_tryDay 11 = .ok (.getfield 41, 3) := by decide +kernel
theorem dX2_tryDay_14 : decode cX2_tryDay 14 = .ok (.if_icmp .lt 11, 3) := by decide +kernel
theorem dX2_tryDay_17 : decode cX2_tryDay 17 = .ok (.aload_n 0, 1) := by decide +kernel
theorem dX2_tryDay_18 : decode cX2_tryDay 18 = .ok (.iload_n 3, 1) := by decide +kernel
theorem dX2_tryDay_19 : decode cX2_tryDay 19 = .ok (.iload 4, 2) := by decide +kernel
theorem dX2_tryDay_21 : decode cX2_tryDay 21 = .ok (.invokevirtual 96, 3) := by decide +kernel
theorem dX2_tryDay_24 : decode cX2_tryDay 24 = .ok (.return_, 1) := by decide +kernel
theorem dX2_tryDay_25 : decode cX2_tryDay 25 = .ok (.iconst 0, 1) := by decide +kernel
theorem dX2_tryDay_26 : decode cX2_tryDay 26 = .ok (.iload_n 2, 1) := by decide +kernel
theorem dX2_tryDay_27 : decode cX2_tryDay 27 = .ok (.iconst 1, 1) := by decide +kernel
theorem dX2_tryDay_28 : decode cX2_tryDay 28 = .ok (.isub, 1) := by decide +kernel
theorem dX2_tryDay_29 : decode cX2_tryDay 29 = .ok (.invokestatic 100, 3) := by decide +kernel
theorem dX2_tryDay_32 : decode cX2_tryDay 32 = .ok (.istore 5, 2) := by decide +kernel
theorem dX2_tryDay_34 : decode cX2_tryDay 34 = .ok (.iload_n 2, 1) := by decide +kernel
theorem dX2_tryDay_35 : decode cX2_tryDay 35 = .ok (.ifCond .le 7, 3) := by decide +kernel
theorem dX2_tryDay_38 : decode cX2_tryDay 38 = .ok (.iload_n 3, 1) := by decide +kernel
theorem dX2_tryDay_39 : decode cX2_tryDay 39 = .ok (.goto 9, 3) := by decide +kernel
theorem dX2_tryDay_42 : decode cX2_tryDay 42 = .ok (.iload_n 3, 1) := by decide +kernel
theorem dX2_tryDay_43 : decode cX2_tryDay 43 = .ok (.aload_n 0, 1) := by decide +kernel
theorem dX2_tryDay_44 : decode cX2_tryDay 44 = .ok (.getfield 83, 3) := by decide +kernel
theorem dX2_tryDay_47 : decode cX2_tryDay 47 = .ok (.iadd, 1) := by decide +kernel
theorem dX2_tryDay_48 : decode cX2_tryDay 48 = .ok (.istore 6, 2) := by decide +kernel
theorem dX2_tryDay_50 : decode cX2_tryDay 50 = .ok (.aload_n 0, 1) := by decide +kernel
theorem dX2_tryDay_51 : decode cX2_tryDay 51 = .ok (.getfield 20, 3) := by decide +kernel
theorem dX2_tryDay_54 : decode cX2_tryDay 54 = .ok (.iload_n 1, 1) := by decide +kernel
theorem dX2_tryDay_55 : decode cX2_tryDay 55 = .ok (.aaload, 1) := by decide +kernel
theorem dX2_tryDay_56 : decode cX2_tryDay 56 = .ok (.astore 7, 2) := by decide +kernel
theorem dX2_tryDay_58 : decode cX2_tryDay 58 = .ok (.aload_n 0, 1) := by decide +kernel
theorem dX2_tryDay_59 : decode cX2_tryDay 59 = .ok (.getfield 20, 3) := by decide +kernel
theorem dX2_tryDay_62 : decode cX2_tryDay 62 = .ok (.iload_n 1, 1) := by decide +kernel
theorem dX2_tryDay_63 : decode cX2_tryDay 63 = .ok (.iconst 1, 1) := by decide +kernel
theorem dX2_tryDay_64 : decode cX2_tryDay 64 = .ok (.iadd, 1) := by decide +kernel
theorem dX2_tryDay_65 : decode cX2_tryDay 65 = .ok (.aaload, 1) := by decide +kernel
theorem dX2_tryDay_66 : decode cX2_tryDay 66 = .ok (.astore 8, 2) := by decide +kernel
theorem dX2_tryDay_68 : decode cX2_tryDay 68 = .ok (.aload 8, 2) := by decide +kernel
theorem dX2_tryDay_70 : decode cX2_tryDay 70 = .ok (.aload 7, 2) := by decide +kernel
theorem dX2_tryDay_72 : decode cX2_tryDay 72 = .ok (.invokevirtual 31, 3) := by decide +kernel
theorem dX2_tryDay_75 : decode cX2_tryDay 75 = .ok (.aload 8, 2) := by decide +kernel
theorem dX2_tryDay_77 : decode cX2_tryDay 77 = .ok (.aload_n 0, 1) := by decide +kernel
theorem dX2_tryDay_78 : decode cX2_tryDay 78 = .ok (.getfield 67, 3) := by decide +kernel
theorem dX2_tryDay_81 : decode cX2_tryDay 81 = .ok (.invokevirtual 103, 3) := by decide +kernel
theorem dX2_tryDay_84 : decode cX2_tryDay 84 = .ok (.aload_n 0, 1) := by decide +kernel
theorem dX2_tryDay_85 : decode cX2_tryDay 85 = .ok (.iload_n 1, 1) := by decide +kernel
theorem dX2_tryDay_86 : decode cX2_tryDay 86 = .ok (.iconst 1, 1) := by decide +kernel
theorem dX2_tryDay_87 : decode cX2_tryDay 87 = .ok (.iadd, 1) := by decide +kernel
theorem dX2_tryDay_88 : decode cX2_tryDay 88 = .ok (.iload 5, 2) := by decide +kernel
theorem dX2_tryDay_90 : decode cX2_tryDay 90 = .ok (.iload 6, 2) := by decide +kernel
theorem dX2_tryDay_92 : decode cX2_tryDay 92 = .ok (.iload 4, 2) := by decide +kernel
theorem dX2_tryDay_94 : decode cX2_tryDay 94 = .ok (.invokevirtual 92, 3) := by decide +kernel
theorem dX2_tryDay_97 : decode cX2_tryDay 97 = .ok (.aload_n 0, 1) := by decide +kernel
theorem dX2_tryDay_98 : decode cX2_tryDay 98 = .ok (.getfield 12, 3) := by decide +kernel
theorem dX2_tryDay_101 : decode cX2_tryDay 101 = .ok (.aload 7, 2) := by decide +kernel
theorem dX2_tryDay_103 : decode cX2_tryDay 103 = .ok (.aload_n 0, 1) := by decide +kernel
theorem dX2_tryDay_104 : decode cX2_tryDay 104 = .ok (.getfield 57, 3) := by decide +kernel
theorem dX2_tryDay_107 : decode cX2_tryDay 107 = .ok (.aload_n 0, 1) := by decide +kernel
theorem dX2_tryDay_108 : decode cX2_tryDay 108 = .ok (.getfield 64, 3) := by decide +kernel
theorem dX2_tryDay_111 : decode cX2_tryDay 111 = .ok (.aload_n 0, 1) := by decide +kernel
theorem dX2_tryDay_112 : decode cX2_tryDay 112 = .ok (.getfield 45, 3) := by decide +kernel
theorem dX2_tryDay_115 : decode cX2_tryDay 115 = .ok (.invokevirtual 107, 3) := by decide +kernel
theorem dX2_tryDay_118 : decode cX2_tryDay 118 = .ok (.istore 9, 2) := by decide +kernel
theorem dX2_tryDay_120 : decode cX2_tryDay 120 = .ok (.aload 8, 2) := by decide +kernel
theorem dX2_tryDay_122 : decode cX2_tryDay 122 = .ok (.aload 7, 2) := by decide +kernel
theorem dX2_tryDay_124 : decode cX2_tryDay 124 = .ok (.invokevirtual 31, 3) := by decide +kernel
theorem dX2_tryDay_127 : decode cX2_tryDay 127 = .ok (.aload 8, 2) := by decide +kernel
theorem dX2_tryDay_129 : decode cX2_tryDay 129 = .ok (.aload_n 0, 1) := by decide +kernel
theorem dX2_tryDay_130 : decode cX2_tryDay 130 = .ok (.getfield 12, 3) := by decide +kernel
theorem dX2_tryDay_133 : decode cX2_tryDay 133 = .ok (.getfield 111, 3) := by decide +kernel
theorem dX2_tryDay_136 : decode cX2_tryDay 136 = .ok (.invokevirtual 114, 3) := by decide +kernel
theorem dX2_tryDay_139 : decode cX2_tryDay 139 = .ok (.aload 8, 2) := by decide +kernel
theorem dX2_tryDay_141 : decode cX2_tryDay 141 = .ok (.aload_n 0, 1) := by decide +kernel
theorem dX2_tryDay_142 : decode cX2_tryDay 142 = .ok (.getfield 67, 3) := by decide +kernel
theorem dX2_tryDay_145 : decode cX2_tryDay 145 = .ok (.invokevirtual 103, 3) := by decide +kernel
theorem dX2_tryDay_148 : decode cX2_tryDay 148 = .ok (.iload 9, 2) := by decide +kernel
theorem dX2_tryDay_150 : decode cX2_tryDay 150 = .ok (.ifCond .eq 10, 3) := by decide +kernel
theorem dX2_tryDay_153 : decode cX2_tryDay 153 = .ok (.aload_n 0, 1) := by decide +kernel
theorem dX2_tryDay_154 : decode cX2_tryDay 154 = .ok (.getfield 73, 3) := by decide +kernel
theorem dX2_tryDay_157 : decode cX2_tryDay 157 = .ok (.goto 5, 3) := by decide +kernel
theorem dX2_tryDay_160 : decode cX2_tryDay 160 = .ok (.iload 5, 2) := by decide +kernel
theorem dX2_tryDay_162 : decode cX2_tryDay 162 = .ok (.istore 10, 2) := by decide +kernel
theorem dX2_tryDay_164 : decode cX2_tryDay 164 = .ok (.aload_n 0, 1) := by decide +kernel
theorem dX2_tryDay_165 : decode cX2_tryDay 165 = .ok (.iload_n 1, 1) := by decide +kernel
theorem dX2_tryDay_166 : decode cX2_tryDay 166 = .ok (.iconst 1, 1) := by decide +kernel
theorem dX2_tryDay_167 : decode cX2_tryDay 167 = .ok (.iadd, 1) := by decide +kernel
theorem dX2_tryDay_168 : decode cX2_tryDay 168 = .ok (.iload 10, 2) := by decide +kernel
theorem dX2_tryDay_170 : decode cX2_tryDay 170 = .ok (.iload 6, 2) := by decide +kernel
theorem dX2_tryDay_172 : decode cX2_tryDay 172 = .ok (.aload_n 0, 1) := by decide +kernel
theorem dX2_tryDay_173 : decode cX2_tryDay 173 = .ok (.getfield 78, 3) := by decide +kernel
theorem dX2_tryDay_176 : decode cX2_tryDay 176 = .ok (.iadd, 1) := by decide +kernel
theorem dX2_tryDay_177 : decode cX2_tryDay 177 = .ok (.iload 4, 2) := by decide +kernel
theorem dX2_tryDay_179 : decode cX2_tryDay 179 = .ok (.iconst 1, 1) := by decide +kernel
theorem dX2_tryDay_180 : decode cX2_tryDay 180 = .ok (.iload_n 1, 1) := by decide +kernel
theorem dX2_tryDay_181 : decode cX2_tryDay 181 = .ok (.ishl, 1) := by decide +kernel
theorem dX2_tryDay_182 : decode cX2_tryDay 182 = .ok (.ior, 1) := by decide +kernel
theorem dX2_tryDay_183 : decode cX2_tryDay 183 = .ok (.invokevirtual 92, 3) := by decide +kernel
theorem dX2_tryDay_186 : decode cX2_tryDay 186 = .ok (.return_, 1) := by decide +kernel
theorem dX2_takeIfBetter_0 : decode cX2_takeIfBetter 0 = .ok (.iload_n 1, 1) := by decide +kernel
theorem dX2_takeIfBetter_1 : decode cX2_takeIfBetter 1 = .ok (.aload_n 0, 1) := by decide +kernel
theorem dX2_takeIfBetter_2 : decode cX2_takeIfBetter 2 = .ok (.getfield 86, 3) := by decide +kernel
theorem dX2_takeIfBetter_5 : decode cX2_takeIfBetter 5 = .ok (.if_icmp .lt 19, 3) := by decide +kernel
theorem dX2_takeIfBetter_8 : decode cX2_takeIfBetter 8 = .ok (.iload_n 1, 1) := by decide +kernel
theorem dX2_takeIfBetter_9 : decode cX2_takeIfBetter 9 = .ok (.aload_n 0, 1) := by decide +kernel
theorem dX2_takeIfBetter_10 : decode cX2_takeIfBetter 10 = .ok (.getfield 86, 3) := by decide +kernel
theorem dX2_takeIfBetter_13 : decode cX2_takeIfBetter 13 = .ok (.if_icmp .ne 21, 3) := by decide +kernel
theorem dX2_takeIfBetter_16 : decode cX2_takeIfBetter 16 = .ok (.iload_n 2, 1) := by decide +kernel
theorem dX2_takeIfBetter_17 : decode cX2_takeIfBetter 17 = .ok (.aload_n 0, 1) := by decide +kernel
theorem dX2_takeIfBetter_18 : decode cX2_takeIfBetter 18 = .ok (.getfield 89, 3) := by decide +kernel
theorem dX2_takeIfBetter_21 : decode cX2_takeIfBetter 21 = .ok (.if_icmp .ge 13, 3) := by decide +kernel
theorem dX2_takeIfBetter_24 : decode cX2_takeIfBetter 24 = .ok (.aload_n 0, 1) := by decide +kernel
theorem dX2_takeIfBetter_25 : decode cX2_takeIfBetter 25 = .ok (.iload_n 1, 1) := by decide +kernel
theorem dX2_takeIfBetter_26 : decode cX2_takeIfBetter 26 = .ok (.putfield 86, 3) := by decide +kernel
theorem dX2_takeIfBetter_29 : decode cX2_takeIfBetter 29 = .ok (.aload_n 0, 1) := by decide +kernel
theorem dX2_takeIfBetter_30 : decode cX2_takeIfBetter 30 = .ok (.iload_n 2, 1) := by decide +kernel
theorem dX2_takeIfBetter_31 : decode cX2_takeIfBetter 31 = .ok (.putfield 89, 3) := by decide +kernel
theorem dX2_takeIfBetter_34 : decode cX2_takeIfBetter 34 = .ok (.return_, 1) := by decide +kernel
set_option maxRecDepth 20000 in
theorem ggX2_findOdds_X2_oddsOf : GoodIn wsX2_findOdds wsX2_oddsOf := goodIn_r _ [9, 10, 11, 12, 13, 14, 15, 3, 16, 2, 1, 17, 18, 19, 20, 21, 22, 23, 24, 25, 26, 27, 28, 29, 30, 31, 32, 33, 34, 35, 36, 37, 38, 39, 40, 41, 42, 43, 44, 45, 46, 47, 48, 49, 50, 51, 52, 53, 54, 55, 56, 57, 58, 59, 60, 61, 62, 63, 64, 5, 6, 7, 8, 65, 66, 67, 68, 69, 70, 71, 72, 73, 74, 75, 76, 77, 78, 79, 80, 81, 82, 83, 84, 85, 86, 87, 88, 89, 90, 91, 92, 93, 94, 95, 96, 97, 98, 99, 100] (by decide +kernel) (by decide +kernel)
set_option maxRecDepth 20000 in
theorem gX2_findOdds_X2_oddsOf : GoodIn wsX2_findOdds (wsV RX2 125 RX2 yX2_oddsOf wsX2_oddsOf) := goodIn_app (goodIn_of _ (by decide +kernel)) ggX2_findOdds_X2_oddsOf
theorem dX2_findOdds_0 : decode cX2_findOdds 0 = .ok (.aload_n 0, 1) := by decide +kernel
theorem dX2_findOdds_1 : decode cX2_findOdds 1 = .ok (.iload_n 1, 1) := by decide +kernel
theorem dX2_findOdds_2 : decode cX2_findOdds 2 = .ok (.putfield 67, 3) := by decide +kernel
theorem dX2_findOdds_5 : decode cX2_findOdds 5 = .ok (.aload_n 0, 1) := by decide +kernel
theorem dX2_findOdds_6 : decode cX2_findOdds 6 = .ok (.iload_n 2, 1) := by decide +kernel
theorem dX2_findOdds_7 : decode cX2_findOdds 7 = .ok (.putfield 117, 3) := by decide +kernel
theorem dX2_findOdds_10 : decode cX2_findOdds 10 = .ok (.aload_n 0, 1) := by decide +kernel
theorem dX2_findOdds_11 : decode cX2_findOdds 11 = .ok (.iload_n 3, 1) := by decide +kernel
theorem dX2_findOdds_12 : decode cX2_findOdds 12 = .ok (.putfield 120, 3) := by decide +kernel
theorem dX2_findOdds_15 : decode cX2_findOdds 15 = .ok (.aload_n 0, 1) := by decide +kernel
theorem dX2_findOdds_16 : decode cX2_findOdds 16 = .ok (.iconst 0, 1) := by decide +kernel
theorem dX2_findOdds_17 : decode cX2_findOdds 17 = .ok (.ldc2_w 123, 3) := by decide +kernel
theorem dX2_findOdds_20 : decode cX2_findOdds 20 = .ok (.invokevirtual 125, 3) := by decide +kernel
theorem dX2_findOdds_23 : decode cX2_findOdds 23 = .ok (.l2i, 1) := by decide +kernel
theorem dX2_findOdds_24 : decode cX2_findOdds 24 = .ok (.ireturn, 1) := by decide +kernel
set_option maxRecDepth 20000 in
theorem ggX2_oddsOf_X4_passes : GoodIn wsX2_oddsOf wsX4_passes := goodIn_r _ [15, 16, 17, 18, 19, 20, 14, 21, 22, 23, 24, 25, 26, 27, 28, 29, 90, 91, 92, 93, 94, 95, 96, 97, 98] (by decide +kernel) (by decide +kernel)
set_option maxRecDepth 20000 in
theorem gX2_oddsOf_X4_passes : GoodIn wsX2_oddsOf (wsV RX2 107 RX4 yX4_passes wsX4_passes) := goodIn_app (goodIn_of _ (by decide +kernel)) ggX2_oddsOf_X4_passes
set_option maxRecDepth 20000 in
theorem ggX2_oddsOf_X6_copyFrom : GoodIn wsX2_oddsOf wsX6_copyFrom := goodIn_r _ [34, 35, 36, 37, 38, 39, 94, 95, 96, 97, 98] (by decide +kernel) (by decide +kernel)
set_option maxRecDepth 20000 in
theorem gX2_oddsOf_X6_copyFrom : GoodIn wsX2_oddsOf (wsV RX2 31 RX6 yX6_copyFrom wsX6_copyFrom) := goodIn_app (goodIn_of _ (by decide +kernel)) ggX2_oddsOf_X6_copyFrom
set_option maxRecDepth 20000 in
theorem ggX2_oddsOf_X6_melt : GoodIn wsX2_oddsOf wsX6_melt := goodIn_r _ [43, 35, 38, 44, 45, 46, 47, 48, 49, 50, 33, 51, 36, 39, 37, 52, 53, 54, 55, 56, 57, 58, 94, 95, 96, 97, 98] (by decide +kernel) (by decide +kernel)
set_option maxRecDepth 20000 in
theorem gX2_oddsOf_X6_melt : GoodIn wsX2_oddsOf (wsV RX2 131 RX6 yX6_melt wsX6_melt) := goodIn_app (goodIn_of _ (by decide +kernel)) ggX2_oddsOf_X6_melt
set_option maxRecDepth 20000 in
theorem ggX2_oddsOf_X2_oddsOf : GoodIn wsX2_oddsOf wsX2_oddsOf := goodIn_r _ [0, 1, 2, 3, 4, 5, 6, 7, 8, 9, 10, 11, 12, 13, 14, 15, 16, 17, 18, 19, 20, 21, 22, 23, 24, 25, 26, 27, 28, 29, 30, 31, 32, 33, 34, 35, 36, 37, 38, 39, 40, 41, 42, 43, 44, 45, 46, 47, 48, 49, 50, 51, 52, 53, 54, 55, 56, 57, 58, 59, 60, 61, 62, 63, 64, 65, 66, 67, 68, 69, 70, 71, 72, 73, 74, 75, 76, 77, 78, 79, 80, 81, 82, 83, 84, 85, 86, 87, 88, 89, 90, 91, 92, 93, 94, 95, 96, 97, 98] (by decide +kernel) (by decide +kernel)
set_option maxRecDepth 20000 in
theorem gX2_oddsOf_X2_oddsOf : GoodIn wsX2_oddsOf (wsV RX2 125 RX2 yX2_oddsOf wsX2_oddsOf) := goodIn_app (goodIn_of _ (by decide +kernel)) ggX2_oddsOf_X2_oddsOf
set_option maxRecDepth 20000 in
theorem ggX2_oddsOf_X6_freeze : GoodIn wsX2_oddsOf wsX6_freeze := goodIn_r _ [66, 35, 38, 37, 48, 49, 50, 33, 51, 36, 39, 52, 53, 54, 55, 56, 57, 58, 67, 68, 69, 70, 71, 46, 72, 73, 74, 75, 94, 95, 96, 97, 98] (by decide +kernel) (by decide +kernel)
set_option maxRecDepth 20000 in
theorem gX2_oddsOf_X6_freeze : GoodIn wsX2_oddsOf (wsV RX2 103 RX6 yX6_freeze wsX6_freeze) := goodIn_app (goodIn_of _ (by decide +kernel)) ggX2_oddsOf_X6_freeze
theorem dX2_oddsOf_0 : decode cX2_oddsOf 0 = .ok (.lload_n 2, 1) := by decide +kernel
theorem dX2_oddsOf_1 : decode cX2_oddsOf 1 = .ok (.lconst 0, 1) := by decide +kernel
theorem dX2_oddsOf_2 : decode cX2_oddsOf 2 = .ok (.lcmp, 1) := by decide +kernel
theorem dX2_oddsOf_3 : decode cX2_oddsOf 3 = .ok (.ifCond .ne 5, 3) := by decide +kernel
theorem dX2_oddsOf_6 : decode cX2_oddsOf 6 = .ok (.lconst 0, 1) := by decide +kernel
theorem dX2_oddsOf_7 : decode cX2_oddsOf 7 = .ok (.lreturn, 1) := by decide +kernel
theorem dX2_oddsOf_8 : decode cX2_oddsOf 8 = .ok (.iload_n 1, 1) := by decide +kernel
theorem dX2_oddsOf_9 : decode cX2_oddsOf 9 = .ok (.aload_n 0, 1) := by decide +kernel
theorem dX2_oddsOf_10 : decode cX2_oddsOf 10 = .ok (.getfield 41, 3) := by decide +kernel
theorem dX2_oddsOf_13 : decode cX2_oddsOf 13 = .ok (.if_icmp .lt 37, 3) := by decide +kernel
theorem dX2_oddsOf_16 : decode cX2_oddsOf 16 = .ok (.aload_n 0, 1) := by decide +kernel
theorem dX2_oddsOf_17 : decode cX2_oddsOf 17 = .ok (.getfield 12, 3) := by decide +kernel
theorem dX2_oddsOf_20 : decode cX2_oddsOf 20 = .ok (.aload_n 0, 1) := by decide +kernel
theorem dX2_oddsOf_21 : decode cX2_oddsOf 21 = .ok (.getfield 20, 3) := by decide +kernel
theorem dX2_oddsOf_24 : decode cX2_oddsOf 24 = .ok (.iload_n 1, 1) := by decide +kernel
theorem dX2_oddsOf_25 : decode cX2_oddsOf 25 = .ok (.aaload, 1) := by decide +kernel
theorem dX2_oddsOf_26 : decode cX2_oddsOf 26 = .ok (.aload_n 0, 1) := by decide +kernel
theorem dX2_oddsOf_27 : decode cX2_oddsOf 27 = .ok (.getfield 57, 3) := by decide +kernel
theorem dX2_oddsOf_30 : decode cX2_oddsOf 30 = .ok (.aload_n 0, 1) := by decide +kernel
theorem dX2_oddsOf_31 : decode cX2_oddsOf 31 = .ok (.getfield 64, 3) := by decide +kernel
theorem dX2_oddsOf_34 : decode cX2_oddsOf 34 = .ok (.aload_n 0, 1) := by decide +kernel
theorem dX2_oddsOf_35 : decode cX2_oddsOf 35 = .ok (.getfield 45, 3) := by decide +kernel
theorem dX2_oddsOf_38 : decode cX2_oddsOf 38 = .ok (.invokevirtual 107, 3) := by decide +kernel
theorem dX2_oddsOf_41 : decode cX2_oddsOf 41 = .ok (.ifCond .eq 7, 3) := by decide +kernel
theorem dX2_oddsOf_44 : decode cX2_oddsOf 44 = .ok (.lload_n 2, 1) := by decide +kernel
theorem dX2_oddsOf_45 : decode cX2_oddsOf 45 = .ok (.goto 4, 3) := by decide +kernel
theorem dX2_oddsOf_48 : decode cX2_oddsOf 48 = .ok (.lconst 0, 1) := by decide +kernel
theorem dX2_oddsOf_49 : decode cX2_oddsOf 49 = .ok (.lreturn, 1) := by decide +kernel
theorem dX2_oddsOf_50 : decode cX2_oddsOf 50 = .ok (.aload_n 0, 1) := by decide +kernel
theorem dX2_oddsOf_51 : decode cX2_oddsOf 51 = .ok (.getfield 20, 3) := by decide +kernel
theorem dX2_oddsOf_54 : decode cX2_oddsOf 54 = .ok (.iload_n 1, 1) := by decide +kernel
theorem dX2_oddsOf_55 : decode cX2_oddsOf 55 = .ok (.iconst 1, 1) := by decide +kernel
theorem dX2_oddsOf_56 : decode cX2_oddsOf 56 = .ok (.iadd, 1) := by decide +kernel
theorem dX2_oddsOf_57 : decode cX2_oddsOf 57 = .ok (.aaload, 1) := by decide +kernel
theorem dX2_oddsOf_58 : decode cX2_oddsOf 58 = .ok (.astore 4, 2) := by decide +kernel
theorem dX2_oddsOf_60 : decode cX2_oddsOf 60 = .ok (.lload_n 2, 1) := by decide +kernel
theorem dX2_oddsOf_61 : decode cX2_oddsOf 61 = .ok (.aload_n 0, 1) := by decide +kernel
theorem dX2_oddsOf_62 : decode cX2_oddsOf 62 = .ok (.getfield 120, 3) := by decide +kernel
theorem dX2_oddsOf_65 : decode cX2_oddsOf 65 = .ok (.i2l, 1) := by decide +kernel
theorem dX2_oddsOf_66 : decode cX2_oddsOf 66 = .ok (.lmul, 1) := by decide +kernel
theorem dX2_oddsOf_67 : decode cX2_oddsOf 67 = .ok (.ldc2_w 129, 3) := by decide +kernel
theorem dX2_oddsOf_70 : decode cX2_oddsOf 70 = .ok (.ldiv, 1) := by decide +kernel
theorem dX2_oddsOf_71 : decode cX2_oddsOf 71 = .ok (.lstore 5, 2) := by decide +kernel
theorem dX2_oddsOf_73 : decode cX2_oddsOf 73 = .ok (.aload 4, 2) := by decide +kernel
theorem dX2_oddsOf_75 : decode cX2_oddsOf 75 = .ok (.aload_n 0, 1) := by decide +kernel
theorem dX2_oddsOf_76 : decode cX2_oddsOf 76 = .ok (.getfield 20, 3) := by decide +kernel
theorem dX2_oddsOf_79 : decode cX2_oddsOf 79 = .ok (.iload_n 1, 1) := by decide +kernel
theorem dX2_oddsOf_80 : decode cX2_oddsOf 80 = .ok (.aaload, 1) := by decide +kernel
theorem dX2_oddsOf_81 : decode cX2_oddsOf 81 = .ok (.invokevirtual 31, 3) := by decide +kernel
theorem dX2_oddsOf_84 : decode cX2_oddsOf 84 = .ok (.aload 4, 2) := by decide +kernel
theorem dX2_oddsOf_86 : decode cX2_oddsOf 86 = .ok (.aload_n 0, 1) := by decide +kernel
theorem dX2_oddsOf_87 : decode cX2_oddsOf 87 = .ok (.getfield 117, 3) := by decide +kernel
theorem dX2_oddsOf_90 : decode cX2_oddsOf 90 = .ok (.invokevirtual 131, 3) := by decide +kernel
theorem dX2_oddsOf_93 : decode cX2_oddsOf 93 = .ok (.aload_n 0, 1) := by decide +kernel
theorem dX2_oddsOf_94 : decode cX2_oddsOf 94 = .ok (.iload_n 1, 1) := by decide +kernel
theorem dX2_oddsOf_95 : decode cX2_oddsOf 95 = .ok (.iconst 1, 1) := by decide +kernel
theorem dX2_oddsOf_96 : decode cX2_oddsOf 96 = .ok (.iadd, 1) := by decide +kernel
theorem dX2_oddsOf_97 : decode cX2_oddsOf 97 = .ok (.lload 5, 2) := by decide +kernel
theorem dX2_oddsOf_99 : decode cX2_oddsOf 99 = .ok (.invokevirtual 125, 3) := by decide +kernel
theorem dX2_oddsOf_102 : decode cX2_oddsOf 102 = .ok (.lstore 7, 2) := by decide +kernel
theorem dX2_oddsOf_104 : decode cX2_oddsOf 104 = .ok (.aload 4, 2) := by decide +kernel
theorem dX2_oddsOf_106 : decode cX2_oddsOf 106 = .ok (.aload_n 0, 1) := by decide +kernel
theorem dX2_oddsOf_107 : decode cX2_oddsOf 107 = .ok (.getfield 20, 3) := by decide +kernel
theorem dX2_oddsOf_110 : decode cX2_oddsOf 110 = .ok (.iload_n 1, 1) := by decide +kernel
theorem dX2_oddsOf_111 : decode cX2_oddsOf 111 = .ok (.aaload, 1) := by decide +kernel
theorem dX2_oddsOf_112 : decode cX2_oddsOf 112 = .ok (.invokevirtual 31, 3) := by decide +kernel
theorem dX2_oddsOf_115 : decode cX2_oddsOf 115 = .ok (.aload 4, 2) := by decide +kernel
theorem dX2_oddsOf_117 : decode cX2_oddsOf 117 = .ok (.aload_n 0, 1) := by decide +kernel
theorem dX2_oddsOf_118 : decode cX2_oddsOf 118 = .ok (.getfield 67, 3) := by decide +kernel
theorem dX2_oddsOf_121 : decode cX2_oddsOf 121 = .ok (.invokevirtual 103, 3) := by decide +kernel
theorem dX2_oddsOf_124 : decode cX2_oddsOf 124 = .ok (.lload 7, 2) := by decide +kernel
theorem dX2_oddsOf_126 : decode cX2_oddsOf 126 = .ok (.aload_n 0, 1) := by decide +kernel
theorem dX2_oddsOf_127 : decode cX2_oddsOf 127 = .ok (.iload_n 1, 1) := by decide +kernel
theorem dX2_oddsOf_128 : decode cX2_oddsOf 128 = .ok (.iconst 1, 1) := by decide +kernel
theorem dX2_oddsOf_129 : decode cX2_oddsOf 129 = .ok (.iadd, 1) := by decide +kernel
theorem dX2_oddsOf_130 : decode cX2_oddsOf 130 = .ok (.lload_n 2, 1) := by decide +kernel
theorem dX2_oddsOf_131 : decode cX2_oddsOf 131 = .ok (.lload 5, 2) := by decide +kernel
theorem dX2_oddsOf_133 : decode cX2_oddsOf 133 = .ok (.lsub, 1) := by decide +kernel
theorem dX2_oddsOf_134 : decode cX2_oddsOf 134 = .ok (.invokevirtual 125, 3) := by decide +kernel
theorem dX2_oddsOf_137 : decode cX2_oddsOf 137 = .ok (.ladd, 1) := by decide +kernel
theorem dX2_oddsOf_138 : decode cX2_oddsOf 138 = .ok (.lreturn, 1) := by decide +kernel
theorem dX3_init_0 : decode cX3_init 0 = .ok (.aload_n 0, 1) := by decide +kernel
theorem dX3_init_1 : decode cX3_init 1 = .ok (.invokespecial 3, 3) := by decide +kernel
theorem dX3_init_4 : decode cX3_init 4 = .ok (.aload_n 0, 1) := by decide +kernel
theorem dX3_init_5 : decode cX3_init 5 = .ok (.sipush 230, 3) := by decide +kernel
theorem dX3_init_8 : decode cX3_init 8 = .ok (.newarray .int, 2) := by decide +kernel
theorem dX3_init_10 : decode cX3_init 10 = .ok (.putfield 11, 3) := by decide +kernel
theorem dX3_init_13 : decode cX3_init 13 = .ok (.aload_n 0, 1) := by decide +kernel
theorem dX3_init_14 : decode cX3_init 14 = .ok (.bipush 9, 2) := by decide +kernel
theorem dX3_init_16 : decode cX3_init 16 = .ok (.newarray .int, 2) := by decide +kernel
theorem dX3_init_18 : decode cX3_init 18 = .ok (.putfield 17, 3) := by decide +kernel
theorem dX3_init_21 : decode cX3_init 21 = .ok (.aload_n 0, 1) := by decide +kernel
theorem dX3_init_22 : decode cX3_init 22 = .ok (.bipush 12, 2) := by decide +kernel
theorem dX3_init_24 : decode cX3_init 24 = .ok (.newarray .int, 2) := by decide +kernel
theorem dX3_init_26 : decode cX3_init 26 = .ok (.putfield 22, 3) := by decide +kernel
theorem dX3_init_29 : decode cX3_init 29 = .ok (.aload_n 0, 1) := by decide +kernel
theorem dX3_init_30 : decode cX3_init 30 = .ok (.bipush 12, 2) := by decide +kernel
theorem dX3_init_32 : decode cX3_init 32 = .ok (.newarray .int, 2) := by decide +kernel
theorem dX3_init_34 : decode cX3_init 34 = .ok (.putfield 25, 3) := by decide +kernel
theorem dX3_init_37 : decode cX3_init 37 = .ok (.aload_n 0, 1) := by decide +kernel
theorem dX3_init_38 : decode cX3_init 38 = .ok (.iconst (-1), 1) := by decide +kernel
theorem dX3_init_39 : decode cX3_init 39 = .ok (.putfield 28, 3) := by decide +kernel
theorem dX3_init_42 : decode cX3_init 42 = .ok (.return_, 1) := by decide +kernel
theorem dX3_isFull_0 : decode cX3_isFull 0 = .ok (.aload_n 0, 1) := by decide +kernel
theorem dX3_isFull_1 : decode cX3_isFull 1 = .ok (.getfield 32, 3) := by decide +kernel
theorem dX3_isFull_4 : decode cX3_isFull 4 = .ok (.sipush 230, 3) := by decide +kernel
theorem dX3_isFull_7 : decode cX3_isFull 7 = .ok (.if_icmp .lt 7, 3) := by decide +kernel
theorem dX3_isFull_10 : decode cX3_isFull 10 = .ok (.iconst 1, 1) := by decide +kernel
theorem dX3_isFull_11 : decode cX3_isFull 11 = .ok (.goto 4, 3) := by decide +kernel
theorem dX3_isFull_14 : decode cX3_isFull 14 = .ok (.iconst 0, 1) := by decide +kernel
theorem dX3_isFull_15 : decode cX3_isFull 15 = .ok (.ireturn, 1) := by decide +kernel
set_option maxRecDepth 20000 in
theorem ggX3_add_X3_isFull : GoodIn wsX3_add wsX3_isFull := goodIn_r _ [7, 2, 8, 9, 10, 11, 12, 13, 14, 15, 16, 17] (by decide +kernel) (by decide +kernel)
set_option maxRecDepth 20000 in
theorem gX3_add_X3_isFull : GoodIn wsX3_add (wsV RX3 35 RX3 yX3_isFull wsX3_isFull) := goodIn_app (goodIn_of _ (by decide +kernel)) ggX3_add_X3_isFull
theorem dX3_add_0 : decode cX3_add 0 = .ok (.aload_n 0, 1) := by decide +kernel
theorem dX3_add_1 : decode cX3_add 1 = .ok (.invokevirtual 35, 3) := by decide +kernel
theorem dX3_add_4 : decode cX3_add 4 = .ok (.ifCond .ne 23, 3) := by decide +kernel
theorem dX3_add_7 : decode cX3_add 7 = .ok (.aload_n 0, 1) := by decide +kernel
theorem dX3_add_8 : decode cX3_add 8 = .ok (.getfield 11, 3) := by decide +kernel
theorem dX3_add_11 : decode cX3_add 11 = .ok (.aload_n 0, 1) := by decide +kernel
theorem dX3_add_12 : decode cX3_add 12 = .ok (.getfield 32, 3) := by decide +kernel
theorem dX3_add_15 : decode cX3_add 15 = .ok (.iload_n 1, 1) := by decide +kernel
theorem dX3_add_16 : decode cX3_add 16 = .ok (.iastore, 1) := by decide +kernel
theorem dX3_add_17 : decode cX3_add 17 = .ok (.aload_n 0, 1) := by decide +kernel
theorem dX3_add_18 : decode cX3_add 18 = .ok (.dup, 1) := by decide +kernel
theorem dX3_add_19 : decode cX3_add 19 = .ok (.getfield 32, 3) := by decide +kernel
theorem dX3_add_22 : decode cX3_add 22 = .ok (.iconst 1, 1) := by decide +kernel
theorem dX3_add_23 : decode cX3_add 23 = .ok (.iadd, 1) := by decide +kernel
theorem dX3_add_24 : decode cX3_add 24 = .ok (.putfield 32, 3) := by decide +kernel
theorem dX3_add_27 : decode cX3_add 27 = .ok (.return_, 1) := by decide +kernel
set_option maxRecDepth 20000 in
theorem ggX3_read_X3_skipBlanks : GoodIn wsX3_read wsX3_skipBlanks := goodIn_r _ [12, 1, 13, 14, 62, 63, 64, 65, 66, 67, 68, 69, 70, 71] (by decide +kernel) (by decide +kernel)
set_option maxRecDepth 20000 in
theorem gX3_read_X3_skipBlanks : GoodIn wsX3_read (wsV RX3 54 RX3 yX3_skipBlanks wsX3_skipBlanks) := goodIn_app (goodIn_of _ (by decide +kernel)) ggX3_read_X3_skipBlanks
set_option maxRecDepth 20000 in
theorem ggX3_read_X3_isAtEnd : GoodIn wsX3_read wsX3_isAtEnd := goodIn_r _ [18, 1, 13, 62, 63, 64, 65, 66, 67, 68, 69, 70, 71] (by decide +kernel) (by decide +kernel)
set_option maxRecDepth 20000 in
theorem gX3_read_X3_isAtEnd : GoodIn wsX3_read (wsV RX3 57 RX3 yX3_isAtEnd wsX3_isAtEnd) := goodIn_app (goodIn_of _ (by decide +kernel)) ggX3_read_X3_isAtEnd
set_option maxRecDepth 20000 in
theorem ggX3_read_X3_readClause : GoodIn wsX3_read wsX3_readClause := goodIn_r _ [22, 14, 1, 2, 23, 24, 11, 25, 26, 27, 28, 29, 5, 4, 30, 31, 32, 33, 3, 34, 35, 36, 37, 38, 39, 40, 41, 42, 43, 13, 8, 9, 10, 12, 44, 45, 46, 47, 48, 49, 15, 16, 17, 18, 50, 51, 52, 53, 54, 55, 56, 57, 58, 59, 60, 61, 6, 62, 63, 64, 65, 66, 67, 68, 69, 70, 71] (by decide +kernel) (by decide +kernel)
set_option maxRecDepth 20000 in
theorem gX3_read_X3_readClause : GoodIn wsX3_read (wsV RX3 60 RX3 yX3_readClause wsX3_readClause) := goodIn_app (goodIn_of _ (by decide +kernel)) ggX3_read_X3_readClause
theorem dX3_read_0 : decode cX3_read 0 = .ok (.aload_n 0, 1) := by decide +kernel
theorem dX3_read_1 : decode cX3_read 1 = .ok (.iconst 0, 1) := by decide +kernel
theorem dX3_read_2 : decode cX3_read 2 = .ok (.putfield 39, 3) := by decide +kernel
theorem dX3_read_5 : decode cX3_read 5 = .ok (.aload_n 0, 1) := by decide +kernel
theorem dX3_read_6 : decode cX3_read 6 = .ok (.iconst 0, 1) := by decide +kernel
theorem dX3_read_7 : decode cX3_read 7 = .ok (.putfield 42, 3) := by decide +kernel
theorem dX3_read_10 : decode cX3_read 10 = .ok (.aload_n 0, 1) := by decide +kernel
theorem dX3_read_11 : decode cX3_read 11 = .ok (.iconst 0, 1) := by decide +kernel
theorem dX3_read_12 : decode cX3_read 12 = .ok (.putfield 45, 3) := by decide +kernel
theorem dX3_read_15 : decode cX3_read 15 = .ok (.aload_n 0, 1) := by decide +kernel
theorem dX3_read_16 : decode cX3_read 16 = .ok (.iconst 0, 1) := by decide +kernel
theorem dX3_read_17 : decode cX3_read 17 = .ok (.putfield 48, 3) := by decide +kernel
theorem dX3_read_20 : decode cX3_read 20 = .ok (.aload_n 0, 1) := by decide +kernel
theorem dX3_read_21 : decode cX3_read 21 = .ok (.iconst (-1), 1) := by decide +kernel
theorem dX3_read_22 : decode cX3_read 22 = .ok (.putfield 28, 3) := by decide +kernel
theorem dX3_read_25 : decode cX3_read 25 = .ok (.iconst 0, 1) := by decide +kernel
theorem dX3_read_26 : decode cX3_read 26 = .ok (.istore_n 1, 1) := by decide +kernel
theorem dX3_read_27 : decode cX3_read 27 = .ok (.iload_n 1, 1) := by decide +kernel
theorem dX3_read_28 : decode cX3_read 28 = .ok (.bipush 9, 2) := by decide +kernel
theorem dX3_read_30 : decode cX3_read 30 = .ok (.if_icmp .ge 20, 3) := by decide +kernel
theorem dX3_read_33 : decode cX3_read 33 = .ok (.aload_n 0, 1) := by decide +kernel
theorem dX3_read_34 : decode cX3_read 34 = .ok (.getfield 17, 3) := by decide +kernel
theorem dX3_read_37 : decode cX3_read 37 = .ok (.iload_n 1, 1) := by decide +kernel
theorem dX3_read_38 : decode cX3_read 38 = .ok (.getstatic 51, 3) := by decide +kernel
theorem dX3_read_41 : decode cX3_read 41 = .ok (.iload_n 1, 1) := by decide +kernel
theorem dX3_read_42 : decode cX3_read 42 = .ok (.iaload, 1) := by decide +kernel
theorem dX3_read_43 : decode cX3_read 43 = .ok (.iastore, 1) := by decide +kernel
theorem dX3_read_44 : decode cX3_read 44 = .ok (.iinc 1 1, 3) := by decide +kernel
theorem dX3_read_47 : decode cX3_read 47 = .ok (.goto (-20), 3) := by decide +kernel
theorem dX3_read_50 : decode cX3_read 50 = .ok (.aload_n 0, 1) := by decide +kernel
theorem dX3_read_51 : decode cX3_read 51 = .ok (.invokevirtual 54, 3) := by decide +kernel
theorem dX3_read_54 : decode cX3_read 54 = .ok (.iconst 0, 1) := by decide +kernel
theorem dX3_read_55 : decode cX3_read 55 = .ok (.istore_n 1, 1) := by decide +kernel
theorem dX3_read_56 : decode cX3_read 56 = .ok (.iload_n 1, 1) := by decide +kernel
theorem dX3_read_57 : decode cX3_read 57 = .ok (.sipush 230, 3) := by decide +kernel
theorem dX3_read_60 : decode cX3_read 60 = .ok (.if_icmp .ge 29, 3) := by decide +kernel
theorem dX3_read_63 : decode cX3_read 63 = .ok (.aload_n 0, 1) := by decide +kernel
theorem dX3_read_64 : decode cX3_read 64 = .ok (.invokevirtual 57, 3) := by decide +kernel
theorem dX3_read_67 : decode cX3_read 67 = .ok (.ifCond .ne 22, 3) := by decide +kernel
theorem dX3_read_70 : decode cX3_read 70 = .ok (.aload_n 0, 1) := by decide +kernel
theorem dX3_read_71 : decode cX3_read 71 = .ok (.invokevirtual 60, 3) := by decide +kernel
theorem dX3_read_74 : decode cX3_read 74 = .ok (.ifCond .ne 5, 3) := by decide +kernel
theorem dX3_read_77 : decode cX3_read 77 = .ok (.iconst 0, 1) := by decide +kernel
theorem dX3_read_78 : decode cX3_read 78 = .ok (.ireturn, 1) := by decide +kernel
theorem dX3_read_79 : decode cX3_read 79 = .ok (.aload_n 0, 1) := by decide +kernel
theorem dX3_read_80 : decode cX3_read 80 = .ok (.invokevirtual 54, 3) := by decide +kernel
theorem dX3_read_83 : decode cX3_read 83 = .ok (.iinc 1 1, 3) := by decide +kernel
theorem dX3_read_86 : decode cX3_read 86 = .ok (.goto (-30), 3) := by decide +kernel
theorem dX3_read_89 : decode cX3_read 89 = .ok (.iconst 1, 1) := by decide +kernel
theorem dX3_read_90 : decode cX3_read 90 = .ok (.ireturn, 1) := by decide +kernel
set_option maxRecDepth 20000 in
theorem ggX3_readClause_X3_clauseOf : GoodIn wsX3_readClause wsX3_clauseOf := goodIn_r _ [7] (by decide +kernel) (by decide +kernel)
set_option maxRecDepth 20000 in
theorem gX3_readClause_X3_clauseOf : GoodIn wsX3_readClause (va_wsS RX3 63 yX3_clauseOf wsX3_clauseOf) := goodIn_app (goodIn_of _ (by decide +kernel)) ggX3_readClause_X3_clauseOf
set_option maxRecDepth 20000 in
theorem ggX3_readClause_X3_failAt : GoodIn wsX3_readClause wsX3_failAt := goodIn_r _ [11, 12, 13, 57, 58, 59, 60, 61, 62, 63, 64, 65, 66] (by decide +kernel) (by decide +kernel)
set_option maxRecDepth 20000 in
theorem gX3_readClause_X3_failAt : GoodIn wsX3_readClause (wsV RX3 67 RX3 yX3_failAt wsX3_failAt) := goodIn_app (goodIn_of _ (by decide +kernel)) ggX3_readClause_X3_failAt
set_option maxRecDepth 20000 in
theorem ggX3_readClause_X3_readYards : GoodIn wsX3_readClause wsX3_readYards := goodIn_r _ [17, 18, 1, 2, 19, 20, 21, 6, 22, 23, 24, 25, 26, 27, 28, 29, 30, 31, 32, 33, 34, 35, 36, 8, 9, 10, 11, 12, 13, 37, 38, 39, 40, 41, 42, 43, 44, 45, 46, 47, 57, 58, 59, 60, 61, 62, 63, 64, 65, 66] (by decide +kernel) (by decide +kernel)
set_option maxRecDepth 20000 in
theorem gX3_readClause_X3_readYards : GoodIn wsX3_readClause (wsV RX3 71 RX3 yX3_readYards wsX3_readYards) := goodIn_app (goodIn_of _ (by decide +kernel)) ggX3_readClause_X3_readYards
set_option maxRecDepth 20000 in
theorem ggX3_readClause_X3_readNumbers : GoodIn wsX3_readClause wsX3_readNumbers := goodIn_r _ [51, 52, 53, 54, 55, 56, 25, 26, 27, 6, 28, 2, 29, 1, 30, 31, 32, 33, 34, 35, 36, 8, 9, 10, 11, 12, 13, 37, 38, 39, 44, 45, 46, 47, 40, 41, 42, 43, 57, 58, 59, 60, 61, 62, 63, 64, 65, 66] (by decide +kernel) (by decide +kernel)
set_option maxRecDepth 20000 in
theorem gX3_readClause_X3_readNumbers : GoodIn wsX3_readClause (wsV RX3 74 RX3 yX3_readNumbers wsX3_readNumbers) := goodIn_app (goodIn_of _ (by decide +kernel)) ggX3_readClause_X3_readNumbers
theorem dX3_readClause_0 : decode cX3_readClause 0 = .ok (.aload_n 0, 1) := by decide +kernel
theorem dX3_readClause_1 : decode cX3_readClause 1 = .ok (.getfield 11, 3) := by decide +kernel
theorem dX3_readClause_4 : decode cX3_readClause 4 = .ok (.aload_n 0, 1) := by decide +kernel
theorem dX3_readClause_5 : decode cX3_readClause 5 = .ok (.getfield 39, 3) := by decide +kernel
theorem dX3_readClause_8 : decode cX3_readClause 8 = .ok (.iaload, 1) := by decide +kernel
theorem dX3_readClause_9 : decode cX3_readClause 9 = .ok (.invokestatic 63, 3) := by decide +kernel
theorem dX3_readClause_12 : decode cX3_readClause 12 = .ok (.istore_n 1, 1) := by decide +kernel
theorem dX3_readClause_13 : decode cX3_readClause 13 = .ok (.aload_n 0, 1) := by decide +kernel
theorem dX3_readClause_14 : decode cX3_readClause 14 = .ok (.getfield 42, 3) := by decide +kernel
theorem dX3_readClause_17 : decode cX3_readClause 17 = .ok (.ifCond .ne 7, 3) := by decide +kernel
theorem dX3_readClause_20 : decode cX3_readClause 20 = .ok (.iload_n 1, 1) := by decide +kernel
theorem dX3_readClause_21 : decode cX3_readClause 21 = .ok (.ifCond .ne 7, 3) := by decide +kernel
theorem dX3_readClause_24 : decode cX3_readClause 24 = .ok (.iconst 1, 1) := by decide +kernel
theorem dX3_readClause_25 : decode cX3_readClause 25 = .ok (.goto 4, 3) := by decide +kernel
theorem dX3_readClause_28 : decode cX3_readClause 28 = .ok (.iconst 0, 1) := by decide +kernel
theorem dX3_readClause_29 : decode cX3_readClause 29 = .ok (.istore_n 2, 1) := by decide +kernel
theorem dX3_readClause_30 : decode cX3_readClause 30 = .ok (.iload_n 1, 1) := by decide +kernel
theorem dX3_readClause_31 : decode cX3_readClause 31 = .ok (.iconst (-1), 1) := by decide +kernel
theorem dX3_readClause_32 : decode cX3_readClause 32 = .ok (.if_icmp .eq 7, 3) := by decide +kernel
theorem dX3_readClause_35 : decode cX3_readClause 35 = .ok (.iload_n 2, 1) := by decide +kernel
theorem dX3_readClause_36 : decode cX3_readClause 36 = .ok (.ifCond .ne 13, 3) := by decide +kernel
theorem dX3_readClause_39 : decode cX3_readClause 39 = .ok (.aload_n 0, 1) := by decide +kernel
theorem dX3_readClause_40 : decode cX3_readClause 40 = .ok (.aload_n 0, 1) := by decide +kernel
theorem dX3_readClause_41 : decode cX3_readClause 41 = .ok (.getfield 39, 3) := by decide +kernel
theorem dX3_readClause_44 : decode cX3_readClause 44 = .ok (.iconst 1, 1) := by decide +kernel
theorem dX3_readClause_45 : decode cX3_readClause 45 = .ok (.invokevirtual 67, 3) := by decide +kernel
theorem dX3_readClause_48 : decode cX3_readClause 48 = .ok (.ireturn, 1) := by decide +kernel
theorem dX3_readClause_49 : decode cX3_readClause 49 = .ok (.aload_n 0, 1) := by decide +kernel
theorem dX3_readClause_50 : decode cX3_readClause 50 = .ok (.getfield 42, 3) := by decide +kernel
theorem dX3_readClause_53 : decode cX3_readClause 53 = .ok (.iload_n 1, 1) := by decide +kernel
theorem dX3_readClause_54 : decode cX3_readClause 54 = .ok (.ishr, 1) := by decide +kernel
theorem dX3_readClause_55 : decode cX3_readClause 55 = .ok (.iconst 1, 1) := by decide +kernel
theorem dX3_readClause_56 : decode cX3_readClause 56 = .ok (.iand, 1) := by decide +kernel
theorem dX3_readClause_57 : decode cX3_readClause 57 = .ok (.iconst 1, 1) := by decide +kernel
theorem dX3_readClause_58 : decode cX3_readClause 58 = .ok (.if_icmp .ne 13, 3) := by decide +kernel
theorem dX3_readClause_61 : decode cX3_readClause 61 = .ok (.aload_n 0, 1) := by decide +kernel
theorem dX3_readClause_62 : decode cX3_readClause 62 = .ok (.aload_n 0, 1) := by decide +kernel
theorem dX3_readClause_63 : decode cX3_readClause 63 = .ok (.getfield 39, 3) := by decide +kernel
theorem dX3_readClause_66 : decode cX3_readClause 66 = .ok (.iconst 3, 1) := by decide +kernel
theorem dX3_readClause_67 : decode cX3_readClause 67 = .ok (.invokevirtual 67, 3) := by decide +kernel
theorem dX3_readClause_70 : decode cX3_readClause 70 = .ok (.ireturn, 1) := by decide +kernel
theorem dX3_readClause_71 : decode cX3_readClause 71 = .ok (.aload_n 0, 1) := by decide +kernel
theorem dX3_readClause_72 : decode cX3_readClause 72 = .ok (.dup, 1) := by decide +kernel
theorem dX3_readClause_73 : decode cX3_readClause 73 = .ok (.getfield 42, 3) := by decide +kernel
theorem dX3_readClause_76 : decode cX3_readClause 76 = .ok (.iconst 1, 1) := by decide +kernel
theorem dX3_readClause_77 : decode cX3_readClause 77 = .ok (.iload_n 1, 1) := by decide +kernel
theorem dX3_readClause_78 : decode cX3_readClause 78 = .ok (.ishl, 1) := by decide +kernel
theorem dX3_readClause_79 : decode cX3_readClause 79 = .ok (.ior, 1) := by decide +kernel
theorem dX3_readClause_80 : decode cX3_readClause 80 = .ok (.putfield 42, 3) := by decide +kernel
theorem dX3_readClause_83 : decode cX3_readClause 83 = .ok (.aload_n 0, 1) := by decide +kernel
theorem dX3_readClause_84 : decode cX3_readClause 84 = .ok (.dup, 1) := by decide +kernel
theorem dX3_readClause_85 : decode cX3_readClause 85 = .ok (.getfield 39, 3) := by decide +kernel
theorem dX3_readClause_88 : decode cX3_readClause 88 = .ok (.iconst 1, 1) := by decide +kernel
theorem dX3_readClause_89 : decode cX3_readClause 89 = .ok (.iadd, 1) := by decide +kernel
theorem dX3_readClause_90 : decode cX3_readClause 90 = .ok (.putfield 39, 3) := by decide +kernel
theorem dX3_readClause_93 : decode cX3_readClause 93 = .ok (.iload_n 1, 1) := by decide +kernel
theorem dX3_readClause_94 : decode cX3_readClause 94 = .ok (.ifCond .ne 10, 3) := by decide +kernel
theorem dX3_readClause_97 : decode cX3_readClause 97 = .ok (.aload_n 0, 1) := by decide +kernel
theorem dX3_readClause_98 : decode cX3_readClause 98 = .ok (.invokevirtual 71, 3) := by decide +kernel
theorem dX3_readClause_101 : decode cX3_readClause 101 = .ok (.goto 8, 3) := by decide +kernel
theorem dX3_readClause_104 : decode cX3_readClause 104 = .ok (.aload_n 0, 1) := by decide +kernel
theorem dX3_readClause_105 : decode cX3_readClause 105 = .ok (.iload_n 1, 1) := by decide +kernel
theorem dX3_readClause_106 : decode cX3_readClause 106 = .ok (.invokevirtual 74, 3) := by decide +kernel
theorem dX3_readClause_109 : decode cX3_readClause 109 = .ok (.ireturn, 1) := by decide +kernel
theorem dX3_clauseOf_0 : decode cX3_clauseOf 0 = .ok (.iload_n 0, 1) := by decide +kernel
theorem dX3_clauseOf_1 : decode cX3_clauseOf 1 = .ok (.lookupswitch 51 #[(98, 45), (99, 49), (103, 47), (121, 43)], 43) := by decide +kernel
theorem dX3_clauseOf_44 : decode cX3_clauseOf 44 = .ok (.iconst 0, 1) := by decide +kernel
theorem dX3_clauseOf_45 : decode cX3_clauseOf 45 = .ok (.ireturn, 1) := by decide +kernel
theorem dX3_clauseOf_46 : decode cX3_clauseOf 46 = .ok (.iconst 1, 1) := by decide +kernel
theorem dX3_clauseOf_47 : decode cX3_clauseOf 47 = .ok (.ireturn, 1) := by decide +kernel
theorem dX3_clauseOf_48 : decode cX3_clauseOf 48 = .ok (.iconst 2, 1) := by decide +kernel
theorem dX3_clauseOf_49 : decode cX3_clauseOf 49 = .ok (.ireturn, 1) := by decide +kernel
theorem dX3_clauseOf_50 : decode cX3_clauseOf 50 = .ok (.iconst 3, 1) := by decide +kernel
theorem dX3_clauseOf_51 : decode cX3_clauseOf 51 = .ok (.ireturn, 1) := by decide +kernel
theorem dX3_clauseOf_52 : decode cX3_clauseOf 52 = .ok (.iconst (-1), 1) := by decide +kernel
theorem dX3_clauseOf_53 : decode cX3_clauseOf 53 = .ok (.ireturn, 1) := by decide +kernel
set_option maxRecDepth 20000 in
theorem ggX3_readYards_X3_readYard : GoodIn wsX3_readYards wsX3_readYard := goodIn_r _ [8, 9, 10, 1, 11, 12, 13, 7, 14, 3, 15, 2, 16, 17, 18, 19, 20, 21, 22, 23, 24, 25, 26, 27, 28, 29, 30, 31, 40, 41, 42, 43, 44, 45, 46, 47, 48, 49] (by decide +kernel) (by decide +kernel)
set_option maxRecDepth 20000 in
theorem gX3_readYards_X3_readYard : GoodIn wsX3_readYards (wsV RX3 78 RX3 yX3_readYard wsX3_readYard) := goodIn_app (goodIn_of _ (by decide +kernel)) ggX3_readYards_X3_readYard
set_option maxRecDepth 20000 in
theorem ggX3_readYards_X3_skipBlanks : GoodIn wsX3_readYards wsX3_skipBlanks := goodIn_r _ [19, 3, 15, 2, 40, 41, 42, 43, 44, 45, 46, 47, 48, 49] (by decide +kernel) (by decide +kernel)
set_option maxRecDepth 20000 in
theorem gX3_readYards_X3_skipBlanks : GoodIn wsX3_readYards (wsV RX3 54 RX3 yX3_skipBlanks wsX3_skipBlanks) := goodIn_app (goodIn_of _ (by decide +kernel)) ggX3_readYards_X3_skipBlanks
set_option maxRecDepth 20000 in
theorem ggX3_readYards_X3_isAtEnd : GoodIn wsX3_readYards wsX3_isAtEnd := goodIn_r _ [35, 3, 15, 40, 41, 42, 43, 44, 45, 46, 47, 48, 49] (by decide +kernel) (by decide +kernel)
set_option maxRecDepth 20000 in
theorem gX3_readYards_X3_isAtEnd : GoodIn wsX3_readYards (wsV RX3 57 RX3 yX3_isAtEnd wsX3_isAtEnd) := goodIn_app (goodIn_of _ (by decide +kernel)) ggX3_readYards_X3_isAtEnd
set_option maxRecDepth 20000 in
theorem ggX3_readYards_X3_readClauseEnd : GoodIn wsX3_readYards wsX3_readClauseEnd := goodIn_r _ [39, 2, 3, 16, 17, 18, 7, 19, 15, 32, 33, 34, 35, 23, 24, 25, 26, 27, 28, 40, 41, 42, 43, 44, 45, 46, 47, 48, 49] (by decide +kernel) (by decide +kernel)
set_option maxRecDepth 20000 in
theorem gX3_readYards_X3_readClauseEnd : GoodIn wsX3_readYards (wsV RX3 81 RX3 yX3_readClauseEnd wsX3_readClauseEnd) := goodIn_app (goodIn_of _ (by decide +kernel)) ggX3_readYards_X3_readClauseEnd
theorem dX3_readYards_0 : decode cX3_readYards 0 = .ok (.iconst 0, 1) := by decide +kernel
theorem dX3_readYards_1 : decode cX3_readYards 1 = .ok (.istore_n 1, 1) := by decide +kernel
theorem dX3_readYards_2 : decode cX3_readYards 2 = .ok (.iload_n 1, 1) := by decide +kernel
theorem dX3_readYards_3 : decode cX3_readYards 3 = .ok (.bipush 12, 2) := by decide +kernel
theorem dX3_readYards_5 : decode cX3_readYards 5 = .ok (.if_icmp .ge 76, 3) := by decide +kernel
theorem dX3_readYards_8 : decode cX3_readYards 8 = .ok (.aload_n 0, 1) := by decide +kernel
theorem dX3_readYards_9 : decode cX3_readYards 9 = .ok (.iload_n 1, 1) := by decide +kernel
theorem dX3_readYards_10 : decode cX3_readYards 10 = .ok (.invokevirtual 78, 3) := by decide +kernel
theorem dX3_readYards_13 : decode cX3_readYards 13 = .ok (.ifCond .ne 5, 3) := by decide +kernel
theorem dX3_readYards_16 : decode cX3_readYards 16 = .ok (.iconst 0, 1) := by decide +kernel
theorem dX3_readYards_17 : decode cX3_readYards 17 = .ok (.ireturn, 1) := by decide +kernel
theorem dX3_readYards_18 : decode cX3_readYards 18 = .ok (.aload_n 0, 1) := by decide +kernel
theorem dX3_readYards_19 : decode cX3_readYards 19 = .ok (.invokevirtual 54, 3) := by decide +kernel
theorem dX3_readYards_22 : decode cX3_readYards 22 = .ok (.aload_n 0, 1) := by decide +kernel
theorem dX3_readYards_23 : decode cX3_readYards 23 = .ok (.getfield 45, 3) := by decide +kernel
theorem dX3_readYards_26 : decode cX3_readYards 26 = .ok (.bipush 12, 2) := by decide +kernel
theorem dX3_readYards_28 : decode cX3_readYards 28 = .ok (.if_icmp .ge 28, 3) := by decide +kernel
theorem dX3_readYards_31 : decode cX3_readYards 31 = .ok (.aload_n 0, 1) := by decide +kernel
theorem dX3_readYards_32 : decode cX3_readYards 32 = .ok (.invokevirtual 57, 3) := by decide +kernel
theorem dX3_readYards_35 : decode cX3_readYards 35 = .ok (.ifCond .ne 21, 3) := by decide +kernel
theorem dX3_readYards_38 : decode cX3_readYards 38 = .ok (.aload_n 0, 1) := by decide +kernel
theorem dX3_readYards_39 : decode cX3_readYards 39 = .ok (.getfield 11, 3) := by decide +kernel
theorem dX3_readYards_42 : decode cX3_readYards 42 = .ok (.aload_n 0, 1) := by decide +kernel
theorem dX3_readYards_43 : decode cX3_readYards 43 = .ok (.getfield 39, 3) := by decide +kernel
theorem dX3_readYards_46 : decode cX3_readYards 46 = .ok (.iaload, 1) := by decide +kernel
theorem dX3_readYards_47 : decode cX3_readYards 47 = .ok (.bipush 44, 2) := by decide +kernel
theorem dX3_readYards_49 : decode cX3_readYards 49 = .ok (.if_icmp .ne 7, 3) := by decide +kernel
theorem dX3_readYards_52 : decode cX3_readYards 52 = .ok (.iconst 1, 1) := by decide +kernel
theorem dX3_readYards_53 : decode cX3_readYards 53 = .ok (.goto 4, 3) := by decide +kernel
theorem dX3_readYards_56 : decode cX3_readYards 56 = .ok (.iconst 0, 1) := by decide +kernel
theorem dX3_readYards_57 : decode cX3_readYards 57 = .ok (.istore_n 2, 1) := by decide +kernel
theorem dX3_readYards_58 : decode cX3_readYards 58 = .ok (.iload_n 2, 1) := by decide +kernel
theorem dX3_readYards_59 : decode cX3_readYards 59 = .ok (.ifCond .ne 6, 3) := by decide +kernel
theorem dX3_readYards_62 : decode cX3_readYards 62 = .ok (.goto 19, 3) := by decide +kernel
theorem dX3_readYards_65 : decode cX3_readYards 65 = .ok (.aload_n 0, 1) := by decide +kernel
theorem dX3_readYards_66 : decode cX3_readYards 66 = .ok (.dup, 1) := by decide +kernel
theorem dX3_readYards_67 : decode cX3_readYards 67 = .ok (.getfield 39, 3) := by decide +kernel
theorem dX3_readYards_70 : decode cX3_readYards 70 = .ok (.iconst 1, 1) := by decide +kernel
theorem dX3_readYards_71 : decode cX3_readYards 71 = .ok (.iadd, 1) := by decide +kernel
theorem dX3_readYards_72 : decode cX3_readYards 72 = .ok (.putfield 39, 3) := by decide +kernel
theorem dX3_readYards_75 : decode cX3_readYards 75 = .ok (.iinc 1 1, 3) := by decide +kernel
theorem dX3_readYards_78 : decode cX3_readYards 78 = .ok (.goto (-76), 3) := by decide +kernel
theorem dX3_readYards_81 : decode cX3_readYards 81 = .ok (.aload_n 0, 1) := by decide +kernel
theorem dX3_readYards_82 : decode cX3_readYards 82 = .ok (.invokevirtual 81, 3) := by decide +kernel
theorem dX3_readYards_85 : decode cX3_readYards 85 = .ok (.ireturn, 1) := by decide +kernel
set_option maxRecDepth 20000 in
theorem ggX3_readYard_X3_readNumber : GoodIn wsX3_readYard wsX3_readNumber := goodIn_r _ [8, 9, 10, 11, 12, 13, 14, 7, 15, 16, 17, 18, 19, 20, 21, 22, 23, 24, 25, 26, 27, 28, 29, 30, 31, 32, 33, 34, 35, 36, 37] (by decide +kernel) (by decide +kernel)
set_option maxRecDepth 20000 in
theorem gX3_readYard_X3_readNumber : GoodIn wsX3_readYard (wsV RX3 84 RX3 yX3_readNumber wsX3_readNumber) := goodIn_app (goodIn_of _ (by decide +kernel)) ggX3_readYard_X3_readNumber
theorem dX3_readYard_0 : decode cX3_readYard 0 = .ok (.aload_n 0, 1) := by decide +kernel
theorem dX3_readYard_1 : decode cX3_readYard 1 = .ok (.iconst 0, 1) := by decide +kernel
theorem dX3_readYard_2 : decode cX3_readYard 2 = .ok (.iconst 3, 1) := by decide +kernel
theorem dX3_readYard_3 : decode cX3_readYard 3 = .ok (.invokevirtual 84, 3) := by decide +kernel
theorem dX3_readYard_6 : decode cX3_readYard 6 = .ok (.istore_n 2, 1) := by decide +kernel
theorem dX3_readYard_7 : decode cX3_readYard 7 = .ok (.iload_n 2, 1) := by decide +kernel
theorem dX3_readYard_8 : decode cX3_readYard 8 = .ok (.iconst (-1), 1) := by decide +kernel
theorem dX3_readYard_9 : decode cX3_readYard 9 = .ok (.if_icmp .ne 5, 3) := by decide +kernel
theorem dX3_readYard_12 : decode cX3_readYard 12 = .ok (.iconst 0, 1) := by decide +kernel
theorem dX3_readYard_13 : decode cX3_readYard 13 = .ok (.ireturn, 1) := by decide +kernel
theorem dX3_readYard_14 : decode cX3_readYard 14 = .ok (.aload_n 0, 1) := by decide +kernel
theorem dX3_readYard_15 : decode cX3_readYard 15 = .ok (.iconst 0, 1) := by decide +kernel
theorem dX3_readYard_16 : decode cX3_readYard 16 = .ok (.bipush 99, 2) := by decide +kernel
theorem dX3_readYard_18 : decode cX3_readYard 18 = .ok (.invokevirtual 84, 3) := by decide +kernel
theorem dX3_readYard_21 : decode cX3_readYard 21 = .ok (.istore_n 3, 1) := by decide +kernel
theorem dX3_readYard_22 : decode cX3_readYard 22 = .ok (.iload_n 3, 1) := by decide +kernel
theorem dX3_readYard_23 : decode cX3_readYard 23 = .ok (.iconst (-1), 1) := by decide +kernel
theorem dX3_readYard_24 : decode cX3_readYard 24 = .ok (.if_icmp .ne 5, 3) := by decide +kernel
theorem dX3_readYard_27 : decode cX3_readYard 27 = .ok (.iconst 0, 1) := by decide +kernel
theorem dX3_readYard_28 : decode cX3_readYard 28 = .ok (.ireturn, 1) := by decide +kernel
theorem dX3_readYard_29 : decode cX3_readYard 29 = .ok (.aload_n 0, 1) := by decide +kernel
theorem dX3_readYard_30 : decode cX3_readYard 30 = .ok (.getfield 22, 3) := by decide +kernel
theorem dX3_readYard_33 : decode cX3_readYard 33 = .ok (.iload_n 1, 1) := by decide +kernel
theorem dX3_readYard_34 : decode cX3_readYard 34 = .ok (.iload_n 2, 1) := by decide +kernel
theorem dX3_readYard_35 : decode cX3_readYard 35 = .ok (.iastore, 1) := by decide +kernel
theorem dX3_readYard_36 : decode cX3_readYard 36 = .ok (.aload_n 0, 1) := by decide +kernel
theorem dX3_readYard_37 : decode cX3_readYard 37 = .ok (.getfield 25, 3) := by decide +kernel
theorem dX3_readYard_40 : decode cX3_readYard 40 = .ok (.iload_n 1, 1) := by decide +kernel
theorem dX3_readYard_41 : decode cX3_readYard 41 = .ok (.iload_n 3, 1) := by decide +kernel
theorem dX3_readYard_42 : decode cX3_readYard 42 = .ok (.iastore, 1) := by decide +kernel
theorem dX3_readYard_43 : decode cX3_readYard 43 = .ok (.aload_n 0, 1) := by decide +kernel
theorem dX3_readYard_44 : decode cX3_readYard 44 = .ok (.iload_n 1, 1) := by decide +kernel
theorem dX3_readYard_45 : decode cX3_readYard 45 = .ok (.iconst 1, 1) := by decide +kernel
theorem dX3_readYard_46 : decode cX3_readYard 46 = .ok (.iadd, 1) := by decide +kernel
theorem dX3_readYard_47 : decode cX3_readYard 47 = .ok (.putfield 45, 3) := by decide +kernel
theorem dX3_readYard_50 : decode cX3_readYard 50 = .ok (.iconst 1, 1) := by decide +kernel
theorem dX3_readYard_51 : decode cX3_readYard 51 = .ok (.ireturn, 1) := by decide +kernel
set_option maxRecDepth 20000 in
theorem ggX3_readNumbers_X3_readNumber : GoodIn wsX3_readNumbers wsX3_readNumber := goodIn_r _ [10, 11, 12, 13, 14, 15, 16, 9, 17, 18, 19, 20, 21, 22, 23, 24, 25, 26, 27, 28, 29, 38, 39, 40, 41, 42, 43, 44, 45, 46, 47] (by decide +kernel) (by decide +kernel)
set_option maxRecDepth 20000 in
theorem gX3_readNumbers_X3_readNumber : GoodIn wsX3_readNumbers (wsV RX3 84 RX3 yX3_readNumber wsX3_readNumber) := goodIn_app (goodIn_of _ (by decide +kernel)) ggX3_readNumbers_X3_readNumber
set_option maxRecDepth 20000 in
theorem ggX3_readNumbers_X3_readClauseEnd : GoodIn wsX3_readNumbers wsX3_readClauseEnd := goodIn_r _ [33, 13, 11, 14, 15, 16, 9, 17, 12, 34, 35, 36, 37, 21, 22, 23, 24, 25, 26, 38, 39, 40, 41, 42, 43, 44, 45, 46, 47] (by decide +kernel) (by decide +kernel)
set_option maxRecDepth 20000 in
theorem gX3_readNumbers_X3_readClauseEnd : GoodIn wsX3_readNumbers (wsV RX3 81 RX3 yX3_readClauseEnd wsX3_readClauseEnd) := goodIn_app (goodIn_of _ (by decide +kernel)) ggX3_readNumbers_X3_readClauseEnd
theorem dX3_readNumbers_0 : decode cX3_readNumbers 0 = .ok (.getstatic 88, 3) := by decide +kernel
theorem dX3_readNumbers_3 : decode cX3_readNumbers 3 = .ok (.iload_n 1, 1) := by decide +kernel
theorem dX3_readNumbers_4 : decode cX3_readNumbers 4 = .ok (.iaload, 1) := by decide +kernel
theorem dX3_readNumbers_5 : decode cX3_readNumbers 5 = .ok (.istore_n 2, 1) := by decide +kernel
theorem dX3_readNumbers_6 : decode cX3_readNumbers 6 = .ok (.iload_n 2, 1) := by decide +kernel
theorem dX3_readNumbers_7 : decode cX3_readNumbers 7 = .ok (.getstatic 91, 3) := by decide +kernel
theorem dX3_readNumbers_10 : decode cX3_readNumbers 10 = .ok (.iload_n 1, 1) := by decide +kernel
theorem dX3_readNumbers_11 : decode cX3_readNumbers 11 = .ok (.iaload, 1) := by decide +kernel
theorem dX3_readNumbers_12 : decode cX3_readNumbers 12 = .ok (.if_icmp .ge 38, 3) := by decide +kernel
theorem dX3_readNumbers_15 : decode cX3_readNumbers 15 = .ok (.aload_n 0, 1) := by decide +kernel
theorem dX3_readNumbers_16 : decode cX3_readNumbers 16 = .ok (.getstatic 94, 3) := by decide +kernel
theorem dX3_readNumbers_19 : decode cX3_readNumbers 19 = .ok (.iload_n 2, 1) := by decide +kernel
theorem dX3_readNumbers_20 : decode cX3_readNumbers 20 = .ok (.iaload, 1) := by decide +kernel
theorem dX3_readNumbers_21 : decode cX3_readNumbers 21 = .ok (.getstatic 97, 3) := by decide +kernel
theorem dX3_readNumbers_24 : decode cX3_readNumbers 24 = .ok (.iload_n 2, 1) := by decide +kernel
theorem dX3_readNumbers_25 : decode cX3_readNumbers 25 = .ok (.iaload, 1) := by decide +kernel
theorem dX3_readNumbers_26 : decode cX3_readNumbers 26 = .ok (.invokevirtual 84, 3) := by decide +kernel
theorem dX3_readNumbers_29 : decode cX3_readNumbers 29 = .ok (.istore_n 3, 1) := by decide +kernel
theorem dX3_readNumbers_30 : decode cX3_readNumbers 30 = .ok (.iload_n 3, 1) := by decide +kernel
theorem dX3_readNumbers_31 : decode cX3_readNumbers 31 = .ok (.iconst (-1), 1) := by decide +kernel
theorem dX3_readNumbers_32 : decode cX3_readNumbers 32 = .ok (.if_icmp .ne 5, 3) := by decide +kernel
theorem dX3_readNumbers_35 : decode cX3_readNumbers 35 = .ok (.iconst 0, 1) := by decide +kernel
theorem dX3_readNumbers_36 : decode cX3_readNumbers 36 = .ok (.ireturn, 1) := by decide +kernel
theorem dX3_readNumbers_37 : decode cX3_readNumbers 37 = .ok (.aload_n 0, 1) := by decide +kernel
theorem dX3_readNumbers_38 : decode cX3_readNumbers 38 = .ok (.getfield 17, 3) := by decide +kernel
theorem dX3_readNumbers_41 : decode cX3_readNumbers 41 = .ok (.iload_n 2, 1) := by decide +kernel
theorem dX3_readNumbers_42 : decode cX3_readNumbers 42 = .ok (.iload_n 3, 1) := by decide +kernel
theorem dX3_readNumbers_43 : decode cX3_readNumbers 43 = .ok (.iastore, 1) := by decide +kernel
theorem dX3_readNumbers_44 : decode cX3_readNumbers 44 = .ok (.iinc 2 1, 3) := by decide +kernel
theorem dX3_readNumbers_47 : decode cX3_readNumbers 47 = .ok (.goto (-41), 3) := by decide +kernel
theorem dX3_readNumbers_50 : decode cX3_readNumbers 50 = .ok (.aload_n 0, 1) := by decide +kernel
theorem dX3_readNumbers_51 : decode cX3_readNumbers 51 = .ok (.invokevirtual 81, 3) := by decide +kernel
theorem dX3_readNumbers_54 : decode cX3_readNumbers 54 = .ok (.ireturn, 1) := by decide +kernel
set_option maxRecDepth 20000 in
theorem ggX3_readClauseEnd_X3_skipBlanks : GoodIn wsX3_readClauseEnd wsX3_skipBlanks := goodIn_r _ [7, 2, 8, 1, 19, 20, 21, 22, 23, 24, 25, 26, 27, 28] (by decide +kernel) (by decide +kernel)
set_option maxRecDepth 20000 in
theorem gX3_readClauseEnd_X3_skipBlanks : GoodIn wsX3_readClauseEnd (wsV RX3 54 RX3 yX3_skipBlanks wsX3_skipBlanks) := goodIn_app (goodIn_of _ (by decide +kernel)) ggX3_readClauseEnd_X3_skipBlanks
set_option maxRecDepth 20000 in
theorem ggX3_readClauseEnd_X3_isAtEnd : GoodIn wsX3_readClauseEnd wsX3_isAtEnd := goodIn_r _ [12, 2, 8, 19, 20, 21, 22, 23, 24, 25, 26, 27, 28] (by decide +kernel) (by decide +kernel)
set_option maxRecDepth 20000 in
theorem gX3_readClauseEnd_X3_isAtEnd : GoodIn wsX3_readClauseEnd (wsV RX3 57 RX3 yX3_isAtEnd wsX3_isAtEnd) := goodIn_app (goodIn_of _ (by decide +kernel)) ggX3_readClauseEnd_X3_isAtEnd
set_option maxRecDepth 20000 in
theorem ggX3_readClauseEnd_X3_failAt : GoodIn wsX3_readClauseEnd wsX3_failAt := goodIn_r _ [16, 17, 18, 19, 20, 21, 22, 23, 24, 25, 26, 27, 28] (by decide +kernel) (by decide +kernel)
set_option maxRecDepth 20000 in
theorem gX3_readClauseEnd_X3_failAt : GoodIn wsX3_readClauseEnd (wsV RX3 67 RX3 yX3_failAt wsX3_failAt) := goodIn_app (goodIn_of _ (by decide +kernel)) ggX3_readClauseEnd_X3_failAt
theorem dX3_readClauseEnd_0 : decode cX3_readClauseEnd 0 = .ok (.aload_n 0, 1) := by decide +kernel
theorem dX3_readClauseEnd_1 : decode cX3_readClauseEnd 1 = .ok (.invokevirtual 54, 3) := by decide +kernel
theorem dX3_readClauseEnd_4 : decode cX3_readClauseEnd 4 = .ok (.aload_n 0, 1) := by decide +kernel
theorem dX3_readClauseEnd_5 : decode cX3_readClauseEnd 5 = .ok (.invokevirtual 57, 3) := by decide +kernel
theorem dX3_readClauseEnd_8 : decode cX3_readClauseEnd 8 = .ok (.ifCond .ne 17, 3) := by decide +kernel
theorem dX3_readClauseEnd_11 : decode cX3_readClauseEnd 11 = .ok (.aload_n 0, 1) := by decide +kernel
theorem dX3_readClauseEnd_12 : decode cX3_readClauseEnd 12 = .ok (.getfield 11, 3) := by decide +kernel
theorem dX3_readClauseEnd_15 : decode cX3_readClauseEnd 15 = .ok (.aload_n 0, 1) := by decide +kernel
theorem dX3_readClauseEnd_16 : decode cX3_readClauseEnd 16 = .ok (.getfield 39, 3) := by decide +kernel
theorem dX3_readClauseEnd_19 : decode cX3_readClauseEnd 19 = .ok (.iaload, 1) := by decide +kernel
theorem dX3_readClauseEnd_20 : decode cX3_readClauseEnd 20 = .ok (.bipush 59, 2) := by decide +kernel
theorem dX3_readClauseEnd_22 : decode cX3_readClauseEnd 22 = .ok (.if_icmp .eq 13, 3) := by decide +kernel
theorem dX3_readClauseEnd_25 : decode cX3_readClauseEnd 25 = .ok (.aload_n 0, 1) := by decide +kernel
theorem dX3_readClauseEnd_26 : decode cX3_readClauseEnd 26 = .ok (.aload_n 0, 1) := by decide +kernel
theorem dX3_readClauseEnd_27 : decode cX3_readClauseEnd 27 = .ok (.getfield 39, 3) := by decide +kernel
theorem dX3_readClauseEnd_30 : decode cX3_readClauseEnd 30 = .ok (.iconst 1, 1) := by decide +kernel
theorem dX3_readClauseEnd_31 : decode cX3_readClauseEnd 31 = .ok (.invokevirtual 67, 3) := by decide +kernel
theorem dX3_readClauseEnd_34 : decode cX3_readClauseEnd 34 = .ok (.ireturn, 1) := by decide +kernel
theorem dX3_readClauseEnd_35 : decode cX3_readClauseEnd 35 = .ok (.aload_n 0, 1) := by decide +kernel
theorem dX3_readClauseEnd_36 : decode cX3_readClauseEnd 36 = .ok (.dup, 1) := by decide +kernel
theorem dX3_readClauseEnd_37 : decode cX3_readClauseEnd 37 = .ok (.getfield 39, 3) := by decide +kernel
theorem dX3_readClauseEnd_40 : decode cX3_readClauseEnd 40 = .ok (.iconst 1, 1) := by decide +kernel
theorem dX3_readClauseEnd_41 : decode cX3_readClauseEnd 41 = .ok (.iadd, 1) := by decide +kernel
theorem dX3_readClauseEnd_42 : decode cX3_readClauseEnd 42 = .ok (.putfield 39, 3) := by decide +kernel
theorem dX3_readClauseEnd_45 : decode cX3_readClauseEnd 45 = .ok (.iconst 1, 1) := by decide +kernel
theorem dX3_readClauseEnd_46 : decode cX3_readClauseEnd 46 = .ok (.ireturn, 1) := by decide +kernel
set_option maxRecDepth 20000 in
theorem ggX3_readNumber_X3_skipBlanks : GoodIn wsX3_readNumber wsX3_skipBlanks := goodIn_r _ [8, 1, 2, 3, 21, 22, 23, 24, 25, 26, 27, 28, 29, 30] (by decide +kernel) (by decide +kernel)
set_option maxRecDepth 20000 in
theorem gX3_readNumber_X3_skipBlanks : GoodIn wsX3_readNumber (wsV RX3 54 RX3 yX3_skipBlanks wsX3_skipBlanks) := goodIn_app (goodIn_of _ (by decide +kernel)) ggX3_readNumber_X3_skipBlanks
set_option maxRecDepth 20000 in
theorem ggX3_readNumber_X3_isFigure : GoodIn wsX3_readNumber wsX3_isFigure := goodIn_r _ [11] (by decide +kernel) (by decide +kernel)
set_option maxRecDepth 20000 in
theorem gX3_readNumber_X3_isFigure : GoodIn wsX3_readNumber (va_wsS RX3 100 yX3_isFigure wsX3_isFigure) := goodIn_app (goodIn_of _ (by decide +kernel)) ggX3_readNumber_X3_isFigure
set_option maxRecDepth 20000 in
theorem ggX3_readNumber_X3_failAt : GoodIn wsX3_readNumber wsX3_failAt := goodIn_r _ [15, 16, 17, 21, 22, 23, 24, 25, 26, 27, 28, 29, 30] (by decide +kernel) (by decide +kernel)
set_option maxRecDepth 20000 in
theorem gX3_readNumber_X3_failAt : GoodIn wsX3_readNumber (wsV RX3 67 RX3 yX3_failAt wsX3_failAt) := goodIn_app (goodIn_of _ (by decide +kernel)) ggX3_readNumber_X3_failAt
set_option maxRecDepth 20000 in
theorem ggX3_readNumber_X7_isOut : GoodIn wsX3_readNumber wsX7_isOut := goodIn_r _ [20] (by decide +kernel) (by decide +kernel)
set_option maxRecDepth 20000 in
theorem gX3_readNumber_X7_isOut_n103 : GoodIn wsX3_readNumber (wsX7_isOut) := ggX3_readNumber_X7_isOut
theorem dX3_readNumber_0 : decode cX3_readNumber 0 = .ok (.aload_n 0, 1) := by decide +kernel
theorem dX3_readNumber_1 : decode cX3_readNumber 1 = .ok (.invokevirtual 54, 3) := by decide +kernel
theorem dX3_readNumber_4 : decode cX3_readNumber 4 = .ok (.aload_n 0, 1) := by decide +kernel
theorem dX3_readNumber_5 : decode cX3_readNumber 5 = .ok (.getfield 39, 3) := by decide +kernel
theorem dX3_readNumber_8 : decode cX3_readNumber 8 = .ok (.istore_n 3, 1) := by decide +kernel
theorem dX3_readNumber_9 : decode cX3_readNumber 9 = .ok (.iconst 0, 1) := by decide +kernel
theorem dX3_readNumber_10 : decode cX3_readNumber 10 = .ok (.istore 4, 2) := by decide +kernel
theorem dX3_readNumber_12 : decode cX3_readNumber 12 = .ok (.aload_n 0, 1) := by decide +kernel
theorem dX3_readNumber_13 : decode cX3_readNumber 13 = .ok (.getfield 39, 3) := by decide +kernel
theorem dX3_readNumber_16 : decode cX3_readNumber 16 = .ok (.aload_n 0, 1) := by decide +kernel
theorem dX3_readNumber_17 : decode cX3_readNumber 17 = .ok (.getfield 32, 3) := by decide +kernel
theorem dX3_readNumber_20 : decode cX3_readNumber 20 = .ok (.if_icmp .ge 61, 3) := by decide +kernel
theorem dX3_readNumber_23 : decode cX3_readNumber 23 = .ok (.aload_n 0, 1) := by decide +kernel
theorem dX3_readNumber_24 : decode cX3_readNumber 24 = .ok (.getfield 11, 3) := by decide +kernel
theorem dX3_readNumber_27 : decode cX3_readNumber 27 = .ok (.aload_n 0, 1) := by decide +kernel
theorem dX3_readNumber_28 : decode cX3_readNumber 28 = .ok (.getfield 39, 3) := by decide +kernel
theorem dX3_readNumber_31 : decode cX3_readNumber 31 = .ok (.iaload, 1) := by decide +kernel
theorem dX3_readNumber_32 : decode cX3_readNumber 32 = .ok (.invokestatic 100, 3) := by decide +kernel
theorem dX3_readNumber_35 : decode cX3_readNumber 35 = .ok (.ifCond .eq 46, 3) := by decide +kernel
theorem dX3_readNumber_38 : decode cX3_readNumber 38 = .ok (.aload_n 0, 1) := by decide +kernel
theorem dX3_readNumber_39 : decode cX3_readNumber 39 = .ok (.getfield 39, 3) := by decide +kernel
theorem dX3_readNumber_42 : decode cX3_readNumber 42 = .ok (.iload_n 3, 1) := by decide +kernel
theorem dX3_readNumber_43 : decode cX3_readNumber 43 = .ok (.isub, 1) := by decide +kernel
theorem dX3_readNumber_44 : decode cX3_readNumber 44 = .ok (.iconst 3, 1) := by decide +kernel
theorem dX3_readNumber_45 : decode cX3_readNumber 45 = .ok (.if_icmp .ge 23, 3) := by decide +kernel
theorem dX3_readNumber_48 : decode cX3_readNumber 48 = .ok (.bipush 10, 2) := by decide +kernel
theorem dX3_readNumber_50 : decode cX3_readNumber 50 = .ok (.iload 4, 2) := by decide +kernel
theorem dX3_readNumber_52 : decode cX3_readNumber 52 = .ok (.imul, 1) := by decide +kernel
theorem dX3_readNumber_53 : decode cX3_readNumber 53 = .ok (.aload_n 0, 1) := by decide +kernel
theorem dX3_readNumber_54 : decode cX3_readNumber 54 = .ok (.getfield 11, 3) := by decide +kernel
theorem dX3_readNumber_57 : decode cX3_readNumber 57 = .ok (.aload_n 0, 1) := by decide +kernel
theorem dX3_readNumber_58 : decode cX3_readNumber 58 = .ok (.getfield 39, 3) := by decide +kernel
theorem dX3_readNumber_61 : decode cX3_readNumber 61 = .ok (.iaload, 1) := by decide +kernel
theorem dX3_readNumber_62 : decode cX3_readNumber 62 = .ok (.iadd, 1) := by decide +kernel
theorem dX3_readNumber_63 : decode cX3_readNumber 63 = .ok (.bipush 48, 2) := by decide +kernel
theorem dX3_readNumber_65 : decode cX3_readNumber 65 = .ok (.isub, 1) := by decide +kernel
theorem dX3_readNumber_66 : decode cX3_readNumber 66 = .ok (.istore 4, 2) := by decide +kernel
theorem dX3_readNumber_68 : decode cX3_readNumber 68 = .ok (.aload_n 0, 1) := by decide +kernel
theorem dX3_readNumber_69 : decode cX3_readNumber 69 = .ok (.dup, 1) := by decide +kernel
theorem dX3_readNumber_70 : decode cX3_readNumber 70 = .ok (.getfield 39, 3) := by decide +kernel
theorem dX3_readNumber_73 : decode cX3_readNumber 73 = .ok (.iconst 1, 1) := by decide +kernel
theorem dX3_readNumber_74 : decode cX3_readNumber 74 = .ok (.iadd, 1) := by decide +kernel
theorem dX3_readNumber_75 : decode cX3_readNumber 75 = .ok (.putfield 39, 3) := by decide +kernel
theorem dX3_readNumber_78 : decode cX3_readNumber 78 = .ok (.goto (-66), 3) := by decide +kernel
theorem dX3_readNumber_81 : decode cX3_readNumber 81 = .ok (.aload_n 0, 1) := by decide +kernel
theorem dX3_readNumber_82 : decode cX3_readNumber 82 = .ok (.getfield 39, 3) := by decide +kernel
theorem dX3_readNumber_85 : decode cX3_readNumber 85 = .ok (.iload_n 3, 1) := by decide +kernel
theorem dX3_readNumber_86 : decode cX3_readNumber 86 = .ok (.if_icmp .ne 12, 3) := by decide +kernel
theorem dX3_readNumber_89 : decode cX3_readNumber 89 = .ok (.aload_n 0, 1) := by decide +kernel
theorem dX3_readNumber_90 : decode cX3_readNumber 90 = .ok (.iload_n 3, 1) := by decide +kernel
theorem dX3_readNumber_91 : decode cX3_readNumber 91 = .ok (.iconst 1, 1) := by decide +kernel
theorem dX3_readNumber_92 : decode cX3_readNumber 92 = .ok (.invokevirtual 67, 3) := by decide +kernel
theorem dX3_readNumber_95 : decode cX3_readNumber 95 = .ok (.pop, 1) := by decide +kernel
theorem dX3_readNumber_96 : decode cX3_readNumber 96 = .ok (.iconst (-1), 1) := by decide +kernel
theorem dX3_readNumber_97 : decode cX3_readNumber 97 = .ok (.ireturn, 1) := by decide +kernel
theorem dX3_readNumber_98 : decode cX3_readNumber 98 = .ok (.aload_n 0, 1) := by decide +kernel
theorem dX3_readNumber_99 : decode cX3_readNumber 99 = .ok (.getfield 39, 3) := by decide +kernel
theorem dX3_readNumber_102 : decode cX3_readNumber 102 = .ok (.iload_n 3, 1) := by decide +kernel
theorem dX3_readNumber_103 : decode cX3_readNumber 103 = .ok (.isub, 1) := by decide +kernel
theorem dX3_readNumber_104 : decode cX3_readNumber 104 = .ok (.iconst 3, 1) := by decide +kernel
theorem dX3_readNumber_105 : decode cX3_readNumber 105 = .ok (.if_icmp .gt 13, 3) := by decide +kernel
theorem dX3_readNumber_108 : decode cX3_readNumber 108 = .ok (.iload 4, 2) := by decide +kernel
theorem dX3_readNumber_110 : decode cX3_readNumber 110 = .ok (.iload_n 1, 1) := by decide +kernel
theorem dX3_readNumber_111 : decode cX3_readNumber 111 = .ok (.iload_n 2, 1) := by decide +kernel
theorem dX3_readNumber_112 : decode cX3_readNumber 112 = .ok (.invokestatic 103, 3) := by decide +kernel
theorem dX3_readNumber_115 : decode cX3_readNumber 115 = .ok (.ifCond .eq 12, 3) := by decide +kernel
theorem dX3_readNumber_118 : decode cX3_readNumber 118 = .ok (.aload_n 0, 1) := by decide +kernel
theorem dX3_readNumber_119 : decode cX3_readNumber 119 = .ok (.iload_n 3, 1) := by decide +kernel
theorem dX3_readNumber_120 : decode cX3_readNumber 120 = .ok (.iconst 2, 1) := by decide +kernel
theorem dX3_readNumber_121 : decode cX3_readNumber 121 = .ok (.invokevirtual 67, 3) := by decide +kernel
theorem dX3_readNumber_124 : decode cX3_readNumber 124 = .ok (.pop, 1) := by decide +kernel
theorem dX3_readNumber_125 : decode cX3_readNumber 125 = .ok (.iconst (-1), 1) := by decide +kernel
theorem dX3_readNumber_126 : decode cX3_readNumber 126 = .ok (.ireturn, 1) := by decide +kernel
theorem dX3_readNumber_127 : decode cX3_readNumber 127 = .ok (.iload 4, 2) := by decide +kernel
theorem dX3_readNumber_129 : decode cX3_readNumber 129 = .ok (.ireturn, 1) := by decide +kernel
theorem dX3_isFigure_0 : decode cX3_isFigure 0 = .ok (.iload_n 0, 1) := by decide +kernel
theorem dX3_isFigure_1 : decode cX3_isFigure 1 = .ok (.bipush 48, 2) := by decide +kernel
theorem dX3_isFigure_3 : decode cX3_isFigure 3 = .ok (.if_icmp .lt 13, 3) := by decide +kernel
theorem dX3_isFigure_6 : decode cX3_isFigure 6 = .ok (.iload_n 0, 1) := by decide +kernel
theorem dX3_isFigure_7 : decode cX3_isFigure 7 = .ok (.bipush 57, 2) := by decide +kernel
theorem dX3_isFigure_9 : decode cX3_isFigure 9 = .ok (.if_icmp .gt 7, 3) := by decide +kernel
theorem dX3_isFigure_12 : decode cX3_isFigure 12 = .ok (.iconst 1, 1) := by decide +kernel
theorem dX3_isFigure_13 : decode cX3_isFigure 13 = .ok (.goto 4, 3) := by decide +kernel
theorem dX3_isFigure_16 : decode cX3_isFigure 16 = .ok (.iconst 0, 1) := by decide +kernel
theorem dX3_isFigure_17 : decode cX3_isFigure 17 = .ok (.ireturn, 1) := by decide +kernel
theorem dX3_skipBlanks_0 : decode cX3_skipBlanks 0 = .ok (.aload_n 0, 1) := by decide +kernel
theorem dX3_skipBlanks_1 : decode cX3_skipBlanks 1 = .ok (.getfield 39, 3) := by decide +kernel
theorem dX3_skipBlanks_4 : decode cX3_skipBlanks 4 = .ok (.aload_n 0, 1) := by decide +kernel
theorem dX3_skipBlanks_5 : decode cX3_skipBlanks 5 = .ok (.getfield 32, 3) := by decide +kernel
theorem dX3_skipBlanks_8 : decode cX3_skipBlanks 8 = .ok (.if_icmp .ge 30, 3) := by decide +kernel
theorem dX3_skipBlanks_11 : decode cX3_skipBlanks 11 = .ok (.aload_n 0, 1) := by decide +kernel
theorem dX3_skipBlanks_12 : decode cX3_skipBlanks 12 = .ok (.getfield 11, 3) := by decide +kernel
theorem dX3_skipBlanks_15 : decode cX3_skipBlanks 15 = .ok (.aload_n 0, 1) := by decide +kernel
theorem dX3_skipBlanks_16 : decode cX3_skipBlanks 16 = .ok (.getfield 39, 3) := by decide +kernel
theorem dX3_skipBlanks_19 : decode cX3_skipBlanks 19 = .ok (.iaload, 1) := by decide +kernel
theorem dX3_skipBlanks_20 : decode cX3_skipBlanks 20 = .ok (.bipush 32, 2) := by decide +kernel
theorem dX3_skipBlanks_22 : decode cX3_skipBlanks 22 = .ok (.if_icmp .ne 16, 3) := by decide +kernel
theorem dX3_skipBlanks_25 : decode cX3_skipBlanks 25 = .ok (.aload_n 0, 1) := by decide +kernel
theorem dX3_skipBlanks_26 : decode cX3_skipBlanks 26 = .ok (.dup, 1) := by decide +kernel
theorem dX3_skipBlanks_27 : decode cX3_skipBlanks 27 = .ok (.getfield 39, 3) := by decide +kernel
theorem dX3_skipBlanks_30 : decode cX3_skipBlanks 30 = .ok (.iconst 1, 1) := by decide +kernel
theorem dX3_skipBlanks_31 : decode cX3_skipBlanks 31 = .ok (.iadd, 1) := by decide +kernel
theorem dX3_skipBlanks_32 : decode cX3_skipBlanks 32 = .ok (.putfield 39, 3) := by decide +kernel
theorem dX3_skipBlanks_35 : decode cX3_skipBlanks 35 = .ok (.goto (-35), 3) := by decide +kernel
theorem dX3_skipBlanks_38 : decode cX3_skipBlanks 38 = .ok (.return_, 1) := by decide +kernel
theorem dX3_isAtEnd_0 : decode cX3_isAtEnd 0 = .ok (.aload_n 0, 1) := by decide +kernel
theorem dX3_isAtEnd_1 : decode cX3_isAtEnd 1 = .ok (.getfield 39, 3) := by decide +kernel
theorem dX3_isAtEnd_4 : decode cX3_isAtEnd 4 = .ok (.aload_n 0, 1) := by decide +kernel
theorem dX3_isAtEnd_5 : decode cX3_isAtEnd 5 = .ok (.getfield 32, 3) := by decide +kernel
theorem dX3_isAtEnd_8 : decode cX3_isAtEnd 8 = .ok (.if_icmp .lt 7, 3) := by decide +kernel
theorem dX3_isAtEnd_11 : decode cX3_isAtEnd 11 = .ok (.iconst 1, 1) := by decide +kernel
theorem dX3_isAtEnd_12 : decode cX3_isAtEnd 12 = .ok (.goto 4, 3) := by decide +kernel
theorem dX3_isAtEnd_15 : decode cX3_isAtEnd 15 = .ok (.iconst 0, 1) := by decide +kernel
theorem dX3_isAtEnd_16 : decode cX3_isAtEnd 16 = .ok (.ireturn, 1) := by decide +kernel
theorem dX3_failAt_0 : decode cX3_failAt 0 = .ok (.aload_n 0, 1) := by decide +kernel
theorem dX3_failAt_1 : decode cX3_failAt 1 = .ok (.iload_n 1, 1) := by decide +kernel
theorem dX3_failAt_2 : decode cX3_failAt 2 = .ok (.putfield 28, 3) := by decide +kernel
theorem dX3_failAt_5 : decode cX3_failAt 5 = .ok (.aload_n 0, 1) := by decide +kernel
theorem dX3_failAt_6 : decode cX3_failAt 6 = .ok (.iload_n 2, 1) := by decide +kernel
theorem dX3_failAt_7 : decode cX3_failAt 7 = .ok (.putfield 48, 3) := by decide +kernel
theorem dX3_failAt_10 : decode cX3_failAt 10 = .ok (.iconst 0, 1) := by decide +kernel
theorem dX3_failAt_11 : decode cX3_failAt 11 = .ok (.ireturn, 1) := by decide +kernel
theorem dX4_init_0 : decode cX4_init 0 = .ok (.aload_n 0, 1) := by decide +kernel
theorem dX4_init_1 : decode cX4_init 1 = .ok (.invokespecial 3, 3) := by decide +kernel
theorem dX4_init_4 : decode cX4_init 4 = .ok (.aload_n 0, 1) := by decide +kernel
theorem dX4_init_5 : decode cX4_init 5 = .ok (.bipush 12, 2) := by decide +kernel
theorem dX4_init_7 : decode cX4_init 7 = .ok (.newarray .int, 2) := by decide +kernel
theorem dX4_init_9 : decode cX4_init 9 = .ok (.putfield 11, 3) := by decide +kernel
theorem dX4_init_12 : decode cX4_init 12 = .ok (.return_, 1) := by decide +kernel
set_option maxRecDepth 20000 in
theorem ggX4_go_X4_minutesThrough : GoodIn wsX4_go wsX4_minutesThrough := goodIn_r _ [11] (by decide +kernel) (by decide +kernel)
set_option maxRecDepth 20000 in
theorem gX4_go_X4_minutesThrough : GoodIn wsX4_go (va_wsS RX4 36 yX4_minutesThrough wsX4_minutesThrough) := goodIn_app (goodIn_of _ (by decide +kernel)) ggX4_go_X4_minutesThrough
theorem dX4_go_0 : decode cX4_go 0 = .ok (.aload_n 0, 1) := by decide +kernel
theorem dX4_go_1 : decode cX4_go 1 = .ok (.iconst 0, 1) := by decide +kernel
theorem dX4_go_2 : decode cX4_go 2 = .ok (.putfield 17, 3) := by decide +kernel
theorem dX4_go_5 : decode cX4_go 5 = .ok (.aload_n 0, 1) := by decide +kernel
theorem dX4_go_6 : decode cX4_go 6 = .ok (.iconst 0, 1) := by decide +kernel
theorem dX4_go_7 : decode cX4_go 7 = .ok (.putfield 21, 3) := by decide +kernel
theorem dX4_go_10 : decode cX4_go 10 = .ok (.aload_n 0, 1) := by decide +kernel
theorem dX4_go_11 : decode cX4_go 11 = .ok (.iconst (-1), 1) := by decide +kernel
theorem dX4_go_12 : decode cX4_go 12 = .ok (.putfield 24, 3) := by decide +kernel
theorem dX4_go_15 : decode cX4_go 15 = .ok (.iconst 0, 1) := by decide +kernel
theorem dX4_go_16 : decode cX4_go 16 = .ok (.istore 5, 2) := by decide +kernel
theorem dX4_go_18 : decode cX4_go 18 = .ok (.iload 5, 2) := by decide +kernel
theorem dX4_go_20 : decode cX4_go 20 = .ok (.aload_n 1, 1) := by decide +kernel
theorem dX4_go_21 : decode cX4_go 21 = .ok (.getfield 27, 3) := by decide +kernel
theorem dX4_go_24 : decode cX4_go 24 = .ok (.if_icmp .ge 103, 3) := by decide +kernel
theorem dX4_go_27 : decode cX4_go 27 = .ok (.aload_n 1, 1) := by decide +kernel
theorem dX4_go_28 : decode cX4_go 28 = .ok (.getfield 30, 3) := by decide +kernel
theorem dX4_go_31 : decode cX4_go 31 = .ok (.iload 5, 2) := by decide +kernel
theorem dX4_go_33 : decode cX4_go 33 = .ok (.iaload, 1) := by decide +kernel
theorem dX4_go_34 : decode cX4_go 34 = .ok (.aload_n 1, 1) := by decide +kernel
theorem dX4_go_35 : decode cX4_go 35 = .ok (.getfield 33, 3) := by decide +kernel
theorem dX4_go_38 : decode cX4_go 38 = .ok (.iload 5, 2) := by decide +kernel
theorem dX4_go_40 : decode cX4_go 40 = .ok (.iaload, 1) := by decide +kernel
theorem dX4_go_41 : decode cX4_go 41 = .ok (.iload_n 2, 1) := by decide +kernel
theorem dX4_go_42 : decode cX4_go 42 = .ok (.iload_n 3, 1) := by decide +kernel
theorem dX4_go_43 : decode cX4_go 43 = .ok (.invokestatic 36, 3) := by decide +kernel
theorem dX4_go_46 : decode cX4_go 46 = .ok (.istore 6, 2) := by decide +kernel
theorem dX4_go_48 : decode cX4_go 48 = .ok (.iload 6, 2) := by decide +kernel
theorem dX4_go_50 : decode cX4_go 50 = .ok (.iconst (-1), 1) := by decide +kernel
theorem dX4_go_51 : decode cX4_go 51 = .ok (.if_icmp .eq 15, 3) := by decide +kernel
theorem dX4_go_54 : decode cX4_go 54 = .ok (.aload_n 0, 1) := by decide +kernel
theorem dX4_go_55 : decode cX4_go 55 = .ok (.getfield 21, 3) := by decide +kernel
theorem dX4_go_58 : decode cX4_go 58 = .ok (.iload 6, 2) := by decide +kernel
theorem dX4_go_60 : decode cX4_go 60 = .ok (.iadd, 1) := by decide +kernel
theorem dX4_go_61 : decode cX4_go 61 = .ok (.iload 4, 2) := by decide +kernel
theorem dX4_go_63 : decode cX4_go 63 = .ok (.if_icmp .le 4, 3) := by decide +kernel
theorem dX4_go_66 : decode cX4_go 66 = .ok (.return_, 1) := by decide +kernel
theorem dX4_go_67 : decode cX4_go 67 = .ok (.aload_n 0, 1) := by decide +kernel
theorem dX4_go_68 : decode cX4_go 68 = .ok (.dup, 1) := by decide +kernel
theorem dX4_go_69 : decode cX4_go 69 = .ok (.getfield 21, 3) := by decide +kernel
theorem dX4_go_72 : decode cX4_go 72 = .ok (.iload 6, 2) := by decide +kernel
theorem dX4_go_74 : decode cX4_go 74 = .ok (.iadd, 1) := by decide +kernel
theorem dX4_go_75 : decode cX4_go 75 = .ok (.putfield 21, 3) := by decide +kernel
theorem dX4_go_78 : decode cX4_go 78 = .ok (.aload_n 0, 1) := by decide +kernel
theorem dX4_go_79 : decode cX4_go 79 = .ok (.getfield 11, 3) := by decide +kernel
theorem dX4_go_82 : decode cX4_go 82 = .ok (.iload 5, 2) := by decide +kernel
theorem dX4_go_84 : decode cX4_go 84 = .ok (.aload_n 0, 1) := by decide +kernel
theorem dX4_go_85 : decode cX4_go 85 = .ok (.getfield 21, 3) := by decide +kernel
theorem dX4_go_88 : decode cX4_go 88 = .ok (.iastore, 1) := by decide +kernel
theorem dX4_go_89 : decode cX4_go 89 = .ok (.aload_n 0, 1) := by decide +kernel
theorem dX4_go_90 : decode cX4_go 90 = .ok (.iload 5, 2) := by decide +kernel
theorem dX4_go_92 : decode cX4_go 92 = .ok (.iconst 1, 1) := by decide +kernel
theorem dX4_go_93 : decode cX4_go 93 = .ok (.iadd, 1) := by decide +kernel
theorem dX4_go_94 : decode cX4_go 94 = .ok (.putfield 17, 3) := by decide +kernel
theorem dX4_go_97 : decode cX4_go 97 = .ok (.aload_n 0, 1) := by decide +kernel
theorem dX4_go_98 : decode cX4_go 98 = .ok (.getfield 24, 3) := by decide +kernel
theorem dX4_go_101 : decode cX4_go 101 = .ok (.iconst (-1), 1) := by decide +kernel
theorem dX4_go_102 : decode cX4_go 102 = .ok (.if_icmp .ne 19, 3) := by decide +kernel
theorem dX4_go_105 : decode cX4_go 105 = .ok (.aload_n 1, 1) := by decide +kernel
theorem dX4_go_106 : decode cX4_go 106 = .ok (.getfield 33, 3) := by decide +kernel
theorem dX4_go_109 : decode cX4_go 109 = .ok (.iload 5, 2) := by decide +kernel
theorem dX4_go_111 : decode cX4_go 111 = .ok (.iaload, 1) := by decide +kernel
theorem dX4_go_112 : decode cX4_go 112 = .ok (.ifCond .le 9, 3) := by decide +kernel
theorem dX4_go_115 : decode cX4_go 115 = .ok (.aload_n 0, 1) := by decide +kernel
theorem dX4_go_116 : decode cX4_go 116 = .ok (.iload 5, 2) := by decide +kernel
theorem dX4_go_118 : decode cX4_go 118 = .ok (.putfield 24, 3) := by decide +kernel
theorem dX4_go_121 : decode cX4_go 121 = .ok (.iinc 5 1, 3) := by decide +kernel
theorem dX4_go_124 : decode cX4_go 124 = .ok (.goto (-106), 3) := by decide +kernel
theorem dX4_go_127 : decode cX4_go 127 = .ok (.return_, 1) := by decide +kernel
set_option maxRecDepth 20000 in
theorem ggX4_passes_X4_go : GoodIn wsX4_passes wsX4_go := goodIn_r _ [7, 1, 8, 9, 2, 10, 11, 12, 13, 14, 6, 15, 16, 17, 18, 19, 20, 21, 22, 23, 24] (by decide +kernel) (by decide +kernel)
set_option maxRecDepth 20000 in
theorem gX4_passes_X4_go : GoodIn wsX4_passes (wsV RX4 40 RX4 yX4_go wsX4_go) := goodIn_app (goodIn_of _ (by decide +kernel)) ggX4_passes_X4_go
theorem dX4_passes_0 : decode cX4_passes 0 = .ok (.aload_n 0, 1) := by decide +kernel
theorem dX4_passes_1 : decode cX4_passes 1 = .ok (.aload_n 1, 1) := by decide +kernel
theorem dX4_passes_2 : decode cX4_passes 2 = .ok (.iload_n 2, 1) := by decide +kernel
theorem dX4_passes_3 : decode cX4_passes 3 = .ok (.iload_n 3, 1) := by decide +kernel
theorem dX4_passes_4 : decode cX4_passes 4 = .ok (.iload 4, 2) := by decide +kernel
theorem dX4_passes_6 : decode cX4_passes 6 = .ok (.invokevirtual 40, 3) := by decide +kernel
theorem dX4_passes_9 : decode cX4_passes 9 = .ok (.aload_n 0, 1) := by decide +kernel
theorem dX4_passes_10 : decode cX4_passes 10 = .ok (.getfield 17, 3) := by decide +kernel
theorem dX4_passes_13 : decode cX4_passes 13 = .ok (.aload_n 1, 1) := by decide +kernel
theorem dX4_passes_14 : decode cX4_passes 14 = .ok (.getfield 27, 3) := by decide +kernel
theorem dX4_passes_17 : decode cX4_passes 17 = .ok (.if_icmp .ne 7, 3) := by decide +kernel
theorem dX4_passes_20 : decode cX4_passes 20 = .ok (.iconst 1, 1) := by decide +kernel
theorem dX4_passes_21 : decode cX4_passes 21 = .ok (.goto 4, 3) := by decide +kernel
theorem dX4_passes_24 : decode cX4_passes 24 = .ok (.iconst 0, 1) := by decide +kernel
theorem dX4_passes_25 : decode cX4_passes 25 = .ok (.ireturn, 1) := by decide +kernel
theorem dX4_minutesThrough_0 : decode cX4_minutesThrough 0 = .ok (.iload_n 1, 1) := by decide +kernel
theorem dX4_minutesThrough_1 : decode cX4_minutesThrough 1 = .ok (.ifCond .ne 5, 3) := by decide +kernel
theorem dX4_minutesThrough_4 : decode cX4_minutesThrough 4 = .ok (.iconst 1, 1) := by decide +kernel
theorem dX4_minutesThrough_5 : decode cX4_minutesThrough 5 = .ok (.ireturn, 1) := by decide +kernel
theorem dX4_minutesThrough_6 : decode cX4_minutesThrough 6 = .ok (.iload_n 2, 1) := by decide +kernel
theorem dX4_minutesThrough_7 : decode cX4_minutesThrough 7 = .ok (.iconst 1, 1) := by decide +kernel
theorem dX4_minutesThrough_8 : decode cX4_minutesThrough 8 = .ok (.if_icmp .lt 10, 3) := by decide +kernel
theorem dX4_minutesThrough_11 : decode cX4_minutesThrough 11 = .ok (.iload_n 1, 1) := by decide +kernel
theorem dX4_minutesThrough_12 : decode cX4_minutesThrough 12 = .ok (.iconst 2, 1) := by decide +kernel
theorem dX4_minutesThrough_13 : decode cX4_minutesThrough 13 = .ok (.iload_n 2, 1) := by decide +kernel
theorem dX4_minutesThrough_14 : decode cX4_minutesThrough 14 = .ok (.imul, 1) := by decide +kernel
theorem dX4_minutesThrough_15 : decode cX4_minutesThrough 15 = .ok (.if_icmp .le 5, 3) := by decide +kernel
theorem dX4_minutesThrough_18 : decode cX4_minutesThrough 18 = .ok (.iconst (-1), 1) := by decide +kernel
theorem dX4_minutesThrough_19 : decode cX4_minutesThrough 19 = .ok (.ireturn, 1) := by decide +kernel
theorem dX4_minutesThrough_20 : decode cX4_minutesThrough 20 = .ok (.iconst 1, 1) := by decide +kernel
theorem dX4_minutesThrough_21 : decode cX4_minutesThrough 21 = .ok (.bipush 10, 2) := by decide +kernel
theorem dX4_minutesThrough_23 : decode cX4_minutesThrough 23 = .ok (.iload_n 1, 1) := by decide +kernel
theorem dX4_minutesThrough_24 : decode cX4_minutesThrough 24 = .ok (.imul, 1) := by decide +kernel
theorem dX4_minutesThrough_25 : decode cX4_minutesThrough 25 = .ok (.iload_n 2, 1) := by decide +kernel
theorem dX4_minutesThrough_26 : decode cX4_minutesThrough 26 = .ok (.idiv, 1) := by decide +kernel
theorem dX4_minutesThrough_27 : decode cX4_minutesThrough 27 = .ok (.iadd, 1) := by decide +kernel
theorem dX4_minutesThrough_28 : decode cX4_minutesThrough 28 = .ok (.istore 4, 2) := by decide +kernel
theorem dX4_minutesThrough_30 : decode cX4_minutesThrough 30 = .ok (.iload_n 1, 1) := by decide +kernel
theorem dX4_minutesThrough_31 : decode cX4_minutesThrough 31 = .ok (.iload_n 2, 1) := by decide +kernel
theorem dX4_minutesThrough_32 : decode cX4_minutesThrough 32 = .ok (.if_icmp .le 9, 3) := by decide +kernel
theorem dX4_minutesThrough_35 : decode cX4_minutesThrough 35 = .ok (.iconst 2, 1) := by decide +kernel
theorem dX4_minutesThrough_36 : decode cX4_minutesThrough 36 = .ok (.iload 4, 2) := by decide +kernel
theorem dX4_minutesThrough_38 : decode cX4_minutesThrough 38 = .ok (.imul, 1) := by decide +kernel
theorem dX4_minutesThrough_39 : decode cX4_minutesThrough 39 = .ok (.istore 4, 2) := by decide +kernel
theorem dX4_minutesThrough_41 : decode cX4_minutesThrough 41 = .ok (.iload_n 0, 1) := by decide +kernel
theorem dX4_minutesThrough_42 : decode cX4_minutesThrough 42 = .ok (.iconst 2, 1) := by decide +kernel
theorem dX4_minutesThrough_43 : decode cX4_minutesThrough 43 = .ok (.if_icmp .ne 10, 3) := by decide +kernel
theorem dX4_minutesThrough_46 : decode cX4_minutesThrough 46 = .ok (.iload 4, 2) := by decide +kernel
theorem dX4_minutesThrough_48 : decode cX4_minutesThrough 48 = .ok (.iload_n 3, 1) := by decide +kernel
theorem dX4_minutesThrough_49 : decode cX4_minutesThrough 49 = .ok (.iadd, 1) := by decide +kernel
theorem dX4_minutesThrough_50 : decode cX4_minutesThrough 50 = .ok (.goto 5, 3) := by decide +kernel
theorem dX4_minutesThrough_53 : decode cX4_minutesThrough 53 = .ok (.iload 4, 2) := by decide +kernel
theorem dX4_minutesThrough_55 : decode cX4_minutesThrough 55 = .ok (.ireturn, 1) := by decide +kernel
set_option maxRecDepth 20000 in
theorem ggX4_furthestTurn_X4_isBackInGap : GoodIn wsX4_furthestTurn wsX4_isBackInGap := goodIn_r _ [7, 8, 2, 9, 10, 11, 12] (by decide +kernel) (by decide +kernel)
set_option maxRecDepth 20000 in
theorem gX4_furthestTurn_X4_isBackInGap : GoodIn wsX4_furthestTurn (wsV RX4 44 RX4 yX4_isBackInGap wsX4_isBackInGap) := goodIn_app (goodIn_of _ (by decide +kernel)) ggX4_furthestTurn_X4_isBackInGap
theorem dX4_furthestTurn_0 : decode cX4_furthestTurn 0 = .ok (.aload_n 0, 1) := by decide +kernel
theorem dX4_furthestTurn_1 : decode cX4_furthestTurn 1 = .ok (.getfield 17, 3) := by decide +kernel
theorem dX4_furthestTurn_4 : decode cX4_furthestTurn 4 = .ok (.istore_n 3, 1) := by decide +kernel
theorem dX4_furthestTurn_5 : decode cX4_furthestTurn 5 = .ok (.iload_n 3, 1) := by decide +kernel
theorem dX4_furthestTurn_6 : decode cX4_furthestTurn 6 = .ok (.ifCond .le 34, 3) := by decide +kernel
theorem dX4_furthestTurn_9 : decode cX4_furthestTurn 9 = .ok (.aload_n 0, 1) := by decide +kernel
theorem dX4_furthestTurn_10 : decode cX4_furthestTurn 10 = .ok (.getfield 11, 3) := by decide +kernel
theorem dX4_furthestTurn_13 : decode cX4_furthestTurn 13 = .ok (.iload_n 3, 1) := by decide +kernel
theorem dX4_furthestTurn_14 : decode cX4_furthestTurn 14 = .ok (.iconst 1, 1) := by decide +kernel
theorem dX4_furthestTurn_15 : decode cX4_furthestTurn 15 = .ok (.isub, 1) := by decide +kernel
theorem dX4_furthestTurn_16 : decode cX4_furthestTurn 16 = .ok (.iaload, 1) := by decide +kernel
theorem dX4_furthestTurn_17 : decode cX4_furthestTurn 17 = .ok (.iload_n 3, 1) := by decide +kernel
theorem dX4_furthestTurn_18 : decode cX4_furthestTurn 18 = .ok (.iadd, 1) := by decide +kernel
theorem dX4_furthestTurn_19 : decode cX4_furthestTurn 19 = .ok (.iload_n 1, 1) := by decide +kernel
theorem dX4_furthestTurn_20 : decode cX4_furthestTurn 20 = .ok (.if_icmp .gt 14, 3) := by decide +kernel
theorem dX4_furthestTurn_23 : decode cX4_furthestTurn 23 = .ok (.aload_n 0, 1) := by decide +kernel
theorem dX4_furthestTurn_24 : decode cX4_furthestTurn 24 = .ok (.iload_n 3, 1) := by decide +kernel
theorem dX4_furthestTurn_25 : decode cX4_furthestTurn 25 = .ok (.iload_n 2, 1) := by decide +kernel
theorem dX4_furthestTurn_26 : decode cX4_furthestTurn 26 = .ok (.invokevirtual 44, 3) := by decide +kernel
theorem dX4_furthestTurn_29 : decode cX4_furthestTurn 29 = .ok (.ifCond .eq 5, 3) := by decide +kernel
theorem dX4_furthestTurn_32 : decode cX4_furthestTurn 32 = .ok (.iload_n 3, 1) := by decide +kernel
theorem dX4_furthestTurn_33 : decode cX4_furthestTurn 33 = .ok (.ireturn, 1) := by decide +kernel
theorem dX4_furthestTurn_34 : decode cX4_furthestTurn 34 = .ok (.iinc 3 (-1), 3) := by decide +kernel
theorem dX4_furthestTurn_37 : decode cX4_furthestTurn 37 = .ok (.goto (-32), 3) := by decide +kernel
theorem dX4_furthestTurn_40 : decode cX4_furthestTurn 40 = .ok (.iconst 0, 1) := by decide +kernel
theorem dX4_furthestTurn_41 : decode cX4_furthestTurn 41 = .ok (.ireturn, 1) := by decide +kernel
theorem dX4_isBackInGap_0 : decode cX4_isBackInGap 0 = .ok (.aload_n 0, 1) := by decide +kernel
theorem dX4_isBackInGap_1 : decode cX4_isBackInGap 1 = .ok (.getfield 24, 3) := by decide +kernel
theorem dX4_isBackInGap_4 : decode cX4_isBackInGap 4 = .ok (.iconst (-1), 1) := by decide +kernel
theorem dX4_isBackInGap_5 : decode cX4_isBackInGap 5 = .ok (.if_icmp .eq 11, 3) := by decide +kernel
theorem dX4_isBackInGap_8 : decode cX4_isBackInGap 8 = .ok (.aload_n 0, 1) := by decide +kernel
theorem dX4_isBackInGap_9 : decode cX4_isBackInGap 9 = .ok (.getfield 24, 3) := by decide +kernel
theorem dX4_isBackInGap_12 : decode cX4_isBackInGap 12 = .ok (.iload_n 1, 1) := by decide +kernel
theorem dX4_isBackInGap_13 : decode cX4_isBackInGap 13 = .ok (.if_icmp .lt 5, 3) := by decide +kernel
theorem dX4_isBackInGap_16 : decode cX4_isBackInGap 16 = .ok (.iconst 1, 1) := by decide +kernel
theorem dX4_isBackInGap_17 : decode cX4_isBackInGap 17 = .ok (.ireturn, 1) := by decide +kernel
theorem dX4_isBackInGap_18 : decode cX4_isBackInGap 18 = .ok (.aload_n 0, 1) := by decide +kernel
theorem dX4_isBackInGap_19 : decode cX4_isBackInGap 19 = .ok (.getfield 11, 3) := by decide +kernel
theorem dX4_isBackInGap_22 : decode cX4_isBackInGap 22 = .ok (.iload_n 1, 1) := by decide +kernel
theorem dX4_isBackInGap_23 : decode cX4_isBackInGap 23 = .ok (.iconst 1, 1) := by decide +kernel
theorem dX4_isBackInGap_24 : decode cX4_isBackInGap 24 = .ok (.isub, 1) := by decide +kernel
theorem dX4_isBackInGap_25 : decode cX4_isBackInGap 25 = .ok (.iaload, 1) := by decide +kernel
theorem dX4_isBackInGap_26 : decode cX4_isBackInGap 26 = .ok (.iload_n 1, 1) := by decide +kernel
theorem dX4_isBackInGap_27 : decode cX4_isBackInGap 27 = .ok (.iadd, 1) := by decide +kernel
theorem dX4_isBackInGap_28 : decode cX4_isBackInGap 28 = .ok (.aload_n 0, 1) := by decide +kernel
theorem dX4_isBackInGap_29 : decode cX4_isBackInGap 29 = .ok (.getfield 24, 3) := by decide +kernel
theorem dX4_isBackInGap_32 : decode cX4_isBackInGap 32 = .ok (.isub, 1) := by decide +kernel
theorem dX4_isBackInGap_33 : decode cX4_isBackInGap 33 = .ok (.istore_n 3, 1) := by decide +kernel
theorem dX4_isBackInGap_34 : decode cX4_isBackInGap 34 = .ok (.iload_n 3, 1) := by decide +kernel
theorem dX4_isBackInGap_35 : decode cX4_isBackInGap 35 = .ok (.aload_n 0, 1) := by decide +kernel
theorem dX4_isBackInGap_36 : decode cX4_isBackInGap 36 = .ok (.getfield 11, 3) := by decide +kernel
theorem dX4_isBackInGap_39 : decode cX4_isBackInGap 39 = .ok (.aload_n 0, 1) := by decide +kernel
theorem dX4_isBackInGap_40 : decode cX4_isBackInGap 40 = .ok (.getfield 24, 3) := by decide +kernel
theorem dX4_isBackInGap_43 : decode cX4_isBackInGap 43 = .ok (.iaload, 1) := by decide +kernel
theorem dX4_isBackInGap_44 : decode cX4_isBackInGap 44 = .ok (.isub, 1) := by decide +kernel
theorem dX4_isBackInGap_45 : decode cX4_isBackInGap 45 = .ok (.iload_n 2, 1) := by decide +kernel
theorem dX4_isBackInGap_46 : decode cX4_isBackInGap 46 = .ok (.if_icmp .ge 7, 3) := by decide +kernel
theorem dX4_isBackInGap_49 : decode cX4_isBackInGap 49 = .ok (.iconst 1, 1) := by decide +kernel
theorem dX4_isBackInGap_50 : decode cX4_isBackInGap 50 = .ok (.goto 4, 3) := by decide +kernel
theorem dX4_isBackInGap_53 : decode cX4_isBackInGap 53 = .ok (.iconst 0, 1) := by decide +kernel
theorem dX4_isBackInGap_54 : decode cX4_isBackInGap 54 = .ok (.ireturn, 1) := by decide +kernel
set_option maxRecDepth 20000 in
theorem ggX5_init_X6_init : GoodIn wsX5_init wsX6_init := goodIn_r _ [10, 11, 2, 3, 12, 13, 14, 15, 16, 17, 18, 19, 20] (by decide +kernel) (by decide +kernel)
set_option maxRecDepth 20000 in
theorem gX5_init_X6_init_n9 : GoodIn wsX5_init (wsX6_init) := ggX5_init_X6_init
theorem dX5_init_0 : decode cX5_init 0 = .ok (.aload_n 0, 1) := by decide +kernel
theorem dX5_init_1 : decode cX5_init 1 = .ok (.invokespecial 1, 3) := by decide +kernel
theorem dX5_init_4 : decode cX5_init 4 = .ok (.aload_n 0, 1) := by decide +kernel
theorem dX5_init_5 : decode cX5_init 5 = .ok (.new 7, 3) := by decide +kernel
theorem dX5_init_8 : decode cX5_init 8 = .ok (.dup, 1) := by decide +kernel
theorem dX5_init_9 : decode cX5_init 9 = .ok (.invokespecial 9, 3) := by decide +kernel
theorem dX5_init_12 : decode cX5_init 12 = .ok (.putfield 10, 3) := by decide +kernel
theorem dX5_init_15 : decode cX5_init 15 = .ok (.aload_n 0, 1) := by decide +kernel
theorem dX5_init_16 : decode cX5_init 16 = .ok (.iconst 4, 1) := by decide +kernel
theorem dX5_init_17 : decode cX5_init 17 = .ok (.putfield 16, 3) := by decide +kernel
theorem dX5_init_20 : decode cX5_init 20 = .ok (.return_, 1) := by decide +kernel
set_option maxRecDepth 20000 in
theorem ggX5_begin_X6_begin : GoodIn wsX5_begin wsX6_begin := goodIn_r _ [8, 9, 10, 11, 12, 13, 14, 15, 16, 17, 22, 23, 24, 25, 26] (by decide +kernel) (by decide +kernel)
set_option maxRecDepth 20000 in
theorem gX5_begin_X6_begin : GoodIn wsX5_begin (wsV RX5 20 RX6 yX6_begin wsX6_begin) := goodIn_app (goodIn_of _ (by decide +kernel)) ggX5_begin_X6_begin
theorem dX5_begin_0 : decode cX5_begin 0 = .ok (.aload_n 0, 1) := by decide +kernel
theorem dX5_begin_1 : decode cX5_begin 1 = .ok (.getfield 10, 3) := by decide +kernel
theorem dX5_begin_4 : decode cX5_begin 4 = .ok (.iload_n 1, 1) := by decide +kernel
theorem dX5_begin_5 : decode cX5_begin 5 = .ok (.aload_n 2, 1) := by decide +kernel
theorem dX5_begin_6 : decode cX5_begin 6 = .ok (.aload_n 3, 1) := by decide +kernel
theorem dX5_begin_7 : decode cX5_begin 7 = .ok (.invokevirtual 20, 3) := by decide +kernel
theorem dX5_begin_10 : decode cX5_begin 10 = .ok (.aload_n 0, 1) := by decide +kernel
theorem dX5_begin_11 : decode cX5_begin 11 = .ok (.iconst 4, 1) := by decide +kernel
theorem dX5_begin_12 : decode cX5_begin 12 = .ok (.putfield 16, 3) := by decide +kernel
theorem dX5_begin_15 : decode cX5_begin 15 = .ok (.aload_n 0, 1) := by decide +kernel
theorem dX5_begin_16 : decode cX5_begin 16 = .ok (.iconst 0, 1) := by decide +kernel
theorem dX5_begin_17 : decode cX5_begin 17 = .ok (.putfield 24, 3) := by decide +kernel
theorem dX5_begin_20 : decode cX5_begin 20 = .ok (.return_, 1) := by decide +kernel
set_option maxRecDepth 20000 in
theorem ggX5_copyFrom_X6_copyFrom : GoodIn wsX5_copyFrom wsX6_copyFrom := goodIn_r _ [9, 10, 11, 12, 13, 14, 19, 20, 21, 22, 23] (by decide +kernel) (by decide +kernel)
set_option maxRecDepth 20000 in
theorem gX5_copyFrom_X6_copyFrom : GoodIn wsX5_copyFrom (wsV RX5 27 RX6 yX6_copyFrom wsX6_copyFrom) := goodIn_app (goodIn_of _ (by decide +kernel)) ggX5_copyFrom_X6_copyFrom
theorem dX5_copyFrom_0 : decode cX5_copyFrom 0 = .ok (.aload_n 0, 1) := by decide +kernel
theorem dX5_copyFrom_1 : decode cX5_copyFrom 1 = .ok (.getfield 10, 3) := by decide +kernel
theorem dX5_copyFrom_4 : decode cX5_copyFrom 4 = .ok (.aload_n 1, 1) := by decide +kernel
theorem dX5_copyFrom_5 : decode cX5_copyFrom 5 = .ok (.getfield 10, 3) := by decide +kernel
theorem dX5_copyFrom_8 : decode cX5_copyFrom 8 = .ok (.invokevirtual 27, 3) := by decide +kernel
theorem dX5_copyFrom_11 : decode cX5_copyFrom 11 = .ok (.aload_n 0, 1) := by decide +kernel
theorem dX5_copyFrom_12 : decode cX5_copyFrom 12 = .ok (.aload_n 1, 1) := by decide +kernel
theorem dX5_copyFrom_13 : decode cX5_copyFrom 13 = .ok (.getfield 16, 3) := by decide +kernel
theorem dX5_copyFrom_16 : decode cX5_copyFrom 16 = .ok (.putfield 16, 3) := by decide +kernel
theorem dX5_copyFrom_19 : decode cX5_copyFrom 19 = .ok (.aload_n 0, 1) := by decide +kernel
theorem dX5_copyFrom_20 : decode cX5_copyFrom 20 = .ok (.aload_n 1, 1) := by decide +kernel
theorem dX5_copyFrom_21 : decode cX5_copyFrom 21 = .ok (.getfield 24, 3) := by decide +kernel
theorem dX5_copyFrom_24 : decode cX5_copyFrom 24 = .ok (.putfield 24, 3) := by decide +kernel
theorem dX5_copyFrom_27 : decode cX5_copyFrom 27 = .ok (.aload_n 0, 1) := by decide +kernel
theorem dX5_copyFrom_28 : decode cX5_copyFrom 28 = .ok (.aload_n 1, 1) := by decide +kernel
theorem dX5_copyFrom_29 : decode cX5_copyFrom 29 = .ok (.getfield 31, 3) := by decide +kernel
theorem dX5_copyFrom_32 : decode cX5_copyFrom 32 = .ok (.putfield 31, 3) := by decide +kernel
theorem dX5_copyFrom_35 : decode cX5_copyFrom 35 = .ok (.return_, 1) := by decide +kernel
set_option maxRecDepth 20000 in
theorem ggX5_passCold_X6_freeze : GoodIn wsX5_passCold wsX6_freeze := goodIn_r _ [7, 8, 9, 10, 11, 12, 13, 6, 14, 15, 16, 17, 18, 19, 20, 21, 22, 23, 24, 25, 26, 27, 28, 29, 30, 31, 32, 33, 38, 39, 40, 41, 42] (by decide +kernel) (by decide +kernel)
set_option maxRecDepth 20000 in
theorem gX5_passCold_X6_freeze : GoodIn wsX5_passCold (wsV RX5 34 RX6 yX6_freeze wsX6_freeze) := goodIn_app (goodIn_of _ (by decide +kernel)) ggX5_passCold_X6_freeze
theorem dX5_passCold_0 : decode cX5_passCold 0 = .ok (.aload_n 0, 1) := by decide +kernel
theorem dX5_passCold_1 : decode cX5_passCold 1 = .ok (.getfield 10, 3) := by decide +kernel
theorem dX5_passCold_4 : decode cX5_passCold 4 = .ok (.iload_n 1, 1) := by decide +kernel
theorem dX5_passCold_5 : decode cX5_passCold 5 = .ok (.invokevirtual 34, 3) := by decide +kernel
theorem dX5_passCold_8 : decode cX5_passCold 8 = .ok (.aload_n 0, 1) := by decide +kernel
theorem dX5_passCold_9 : decode cX5_passCold 9 = .ok (.dup, 1) := by decide +kernel
theorem dX5_passCold_10 : decode cX5_passCold 10 = .ok (.getfield 24, 3) := by decide +kernel
theorem dX5_passCold_13 : decode cX5_passCold 13 = .ok (.iconst 1, 1) := by decide +kernel
theorem dX5_passCold_14 : decode cX5_passCold 14 = .ok (.iadd, 1) := by decide +kernel
theorem dX5_passCold_15 : decode cX5_passCold 15 = .ok (.putfield 24, 3) := by decide +kernel
theorem dX5_passCold_18 : decode cX5_passCold 18 = .ok (.return_, 1) := by decide +kernel
set_option maxRecDepth 20000 in
theorem ggX5_passThaw_X6_melt : GoodIn wsX5_passThaw wsX6_melt := goodIn_r _ [7, 8, 9, 10, 11, 12, 13, 14, 15, 16, 6, 17, 18, 19, 20, 21, 22, 23, 24, 25, 26, 27, 32, 33, 34, 35, 36] (by decide +kernel) (by decide +kernel)
set_option maxRecDepth 20000 in
theorem gX5_passThaw_X6_melt : GoodIn wsX5_passThaw (wsV RX5 38 RX6 yX6_melt wsX6_melt) := goodIn_app (goodIn_of _ (by decide +kernel)) ggX5_passThaw_X6_melt
theorem dX5_passThaw_0 : decode cX5_passThaw 0 = .ok (.aload_n 0, 1) := by decide +kernel
theorem dX5_passThaw_1 : decode cX5_passThaw 1 = .ok (.getfield 10, 3) := by decide +kernel
theorem dX5_passThaw_4 : decode cX5_passThaw 4 = .ok (.iload_n 1, 1) := by decide +kernel
theorem dX5_passThaw_5 : decode cX5_passThaw 5 = .ok (.invokevirtual 38, 3) := by decide +kernel
theorem dX5_passThaw_8 : decode cX5_passThaw 8 = .ok (.aload_n 0, 1) := by decide +kernel
theorem dX5_passThaw_9 : decode cX5_passThaw 9 = .ok (.dup, 1) := by decide +kernel
theorem dX5_passThaw_10 : decode cX5_passThaw 10 = .ok (.getfield 24, 3) := by decide +kernel
theorem dX5_passThaw_13 : decode cX5_passThaw 13 = .ok (.iconst 1, 1) := by decide +kernel
theorem dX5_passThaw_14 : decode cX5_passThaw 14 = .ok (.iadd, 1) := by decide +kernel
theorem dX5_passThaw_15 : decode cX5_passThaw 15 = .ok (.putfield 24, 3) := by decide +kernel
theorem dX5_passThaw_18 : decode cX5_passThaw 18 = .ok (.return_, 1) := by decide +kernel
set_option maxRecDepth 20000 in
theorem ggX5_passByDraws_X5_draw : GoodIn wsX5_passByDraws wsX5_draw := goodIn_r _ [5, 6, 7, 8, 9, 10, 59, 60, 61, 62] (by decide +kernel) (by decide +kernel)
set_option maxRecDepth 20000 in
theorem gX5_passByDraws_X5_draw : GoodIn wsX5_passByDraws (wsV RX5 41 RX5 yX5_draw wsX5_draw) := goodIn_app (goodIn_of _ (by decide +kernel)) ggX5_passByDraws_X5_draw
set_option maxRecDepth 20000 in
theorem ggX5_passByDraws_X5_passThaw : GoodIn wsX5_passByDraws wsX5_passThaw := goodIn_r _ [14, 15, 16, 17, 18, 19, 20, 21, 22, 23, 24, 25, 26, 27, 28, 29, 30, 31, 32, 33, 34, 35, 36, 37, 38, 39, 40, 41, 59, 60, 61, 62, 63, 64, 65, 66, 67] (by decide +kernel) (by decide +kernel)
set_option maxRecDepth 20000 in
theorem gX5_passByDraws_X5_passThaw : GoodIn wsX5_passByDraws (wsV RX5 45 RX5 yX5_passThaw wsX5_passThaw) := goodIn_app (goodIn_of _ (by decide +kernel)) ggX5_passByDraws_X5_passThaw
set_option maxRecDepth 20000 in
theorem ggX5_passByDraws_X5_passCold : GoodIn wsX5_passByDraws wsX5_passCold := goodIn_r _ [45, 15, 16, 46, 47, 48, 20, 49, 22, 23, 34, 28, 29, 30, 31, 32, 33, 35, 36, 37, 38, 39, 40, 41, 50, 51, 52, 53, 54, 26, 55, 56, 57, 58, 59, 60, 61, 62, 63, 64, 65, 66, 67] (by decide +kernel) (by decide +kernel)
set_option maxRecDepth 20000 in
theorem gX5_passByDraws_X5_passCold : GoodIn wsX5_passByDraws (wsV RX5 48 RX5 yX5_passCold wsX5_passCold) := goodIn_app (goodIn_of _ (by decide +kernel)) ggX5_passByDraws_X5_passCold
theorem dX5_passByDraws_0 : decode cX5_passByDraws 0 = .ok (.aload_n 0, 1) := by decide +kernel
theorem dX5_passByDraws_1 : decode cX5_passByDraws 1 = .ok (.iconst 5, 1) := by decide +kernel
theorem dX5_passByDraws_2 : decode cX5_passByDraws 2 = .ok (.invokevirtual 41, 3) := by decide +kernel
theorem dX5_passByDraws_5 : decode cX5_passByDraws 5 = .ok (.ifCond .ne 16, 3) := by decide +kernel
theorem dX5_passByDraws_8 : decode cX5_passByDraws 8 = .ok (.aload_n 0, 1) := by decide +kernel
theorem dX5_passByDraws_9 : decode cX5_passByDraws 9 = .ok (.aload_n 0, 1) := by decide +kernel
theorem dX5_passByDraws_10 : decode cX5_passByDraws 10 = .ok (.bipush 40, 2) := by decide +kernel
theorem dX5_passByDraws_12 : decode cX5_passByDraws 12 = .ok (.invokevirtual 41, 3) := by decide +kernel
theorem dX5_passByDraws_15 : decode cX5_passByDraws 15 = .ok (.invokevirtual 45, 3) := by decide +kernel
theorem dX5_passByDraws_18 : decode cX5_passByDraws 18 = .ok (.goto 13, 3) := by decide +kernel
theorem dX5_passByDraws_21 : decode cX5_passByDraws 21 = .ok (.aload_n 0, 1) := by decide +kernel
theorem dX5_passByDraws_22 : decode cX5_passByDraws 22 = .ok (.aload_n 0, 1) := by decide +kernel
theorem dX5_passByDraws_23 : decode cX5_passByDraws 23 = .ok (.bipush 31, 2) := by decide +kernel
theorem dX5_passByDraws_25 : decode cX5_passByDraws 25 = .ok (.invokevirtual 41, 3) := by decide +kernel
theorem dX5_passByDraws_28 : decode cX5_passByDraws 28 = .ok (.invokevirtual 48, 3) := by decide +kernel
theorem dX5_passByDraws_31 : decode cX5_passByDraws 31 = .ok (.return_, 1) := by decide +kernel
theorem dX5_draw_0 : decode cX5_draw 0 = .ok (.aload_n 0, 1) := by decide +kernel
theorem dX5_draw_1 : decode cX5_draw 1 = .ok (.aload_n 0, 1) := by decide +kernel
theorem dX5_draw_2 : decode cX5_draw 2 = .ok (.getfield 31, 3) := by decide +kernel
theorem dX5_draw_5 : decode cX5_draw 5 = .ok (.i2l, 1) := by decide +kernel
theorem dX5_draw_6 : decode cX5_draw 6 = .ok (.ldc2_w 51, 3) := by decide +kernel
theorem dX5_draw_9 : decode cX5_draw 9 = .ok (.lmul, 1) := by decide +kernel
theorem dX5_draw_10 : decode cX5_draw 10 = .ok (.ldc2_w 53, 3) := by decide +kernel
theorem dX5_draw_13 : decode cX5_draw 13 = .ok (.ladd, 1) := by decide +kernel
theorem dX5_draw_14 : decode cX5_draw 14 = .ok (.ldc2_w 55, 3) := by decide +kernel
theorem dX5_draw_17 : decode cX5_draw 17 = .ok (.land, 1) := by decide +kernel
theorem dX5_draw_18 : decode cX5_draw 18 = .ok (.l2i, 1) := by decide +kernel
theorem dX5_draw_19 : decode cX5_draw 19 = .ok (.putfield 31, 3) := by decide +kernel
theorem dX5_draw_22 : decode cX5_draw 22 = .ok (.iload_n 1, 1) := by decide +kernel
theorem dX5_draw_23 : decode cX5_draw 23 = .ok (.iconst 1, 1) := by decide +kernel
theorem dX5_draw_24 : decode cX5_draw 24 = .ok (.if_icmp .ge 7, 3) := by decide +kernel
theorem dX5_draw_27 : decode cX5_draw 27 = .ok (.iconst 0, 1) := by decide +kernel
theorem dX5_draw_28 : decode cX5_draw 28 = .ok (.goto 12, 3) := by decide +kernel
theorem dX5_draw_31 : decode cX5_draw 31 = .ok (.aload_n 0, 1) := by decide +kernel
theorem dX5_draw_32 : decode cX5_draw 32 = .ok (.getfield 31, 3) := by decide +kernel
theorem dX5_draw_35 : decode cX5_draw 35 = .ok (.ldc 57, 2) := by decide +kernel
theorem dX5_draw_37 : decode cX5_draw 37 = .ok (.idiv, 1) := by decide +kernel
theorem dX5_draw_38 : decode cX5_draw 38 = .ok (.iload_n 1, 1) := by decide +kernel
theorem dX5_draw_39 : decode cX5_draw 39 = .ok (.irem, 1) := by decide +kernel
theorem dX5_draw_40 : decode cX5_draw 40 = .ok (.ireturn, 1) := by decide +kernel
theorem dX6_init_0 : decode cX6_init 0 = .ok (.aload_n 0, 1) := by decide +kernel
theorem dX6_init_1 : decode cX6_init 1 = .ok (.invokespecial 3, 3) := by decide +kernel
theorem dX6_init_4 : decode cX6_init 4 = .ok (.aload_n 0, 1) := by decide +kernel
theorem dX6_init_5 : decode cX6_init 5 = .ok (.bipush 12, 2) := by decide +kernel
theorem dX6_init_7 : decode cX6_init 7 = .ok (.newarray .int, 2) := by decide +kernel
theorem dX6_init_9 : decode cX6_init 9 = .ok (.putfield 11, 3) := by decide +kernel
theorem dX6_init_12 : decode cX6_init 12 = .ok (.aload_n 0, 1) := by decide +kernel
theorem dX6_init_13 : decode cX6_init 13 = .ok (.bipush 12, 2) := by decide +kernel
theorem dX6_init_15 : decode cX6_init 15 = .ok (.newarray .int, 2) := by decide +kernel
theorem dX6_init_17 : decode cX6_init 17 = .ok (.putfield 15, 3) := by decide +kernel
theorem dX6_init_20 : decode cX6_init 20 = .ok (.aload_n 0, 1) := by decide +kernel
theorem dX6_init_21 : decode cX6_init 21 = .ok (.bipush 12, 2) := by decide +kernel
theorem dX6_init_23 : decode cX6_init 23 = .ok (.newarray .int, 2) := by decide +kernel
theorem dX6_init_25 : decode cX6_init 25 = .ok (.putfield 18, 3) := by decide +kernel
theorem dX6_init_28 : decode cX6_init 28 = .ok (.return_, 1) := by decide +kernel
theorem dX6_has_0 : decode cX6_has 0 = .ok (.iload_n 1, 1) := by decide +kernel
theorem dX6_has_1 : decode cX6_has 1 = .ok (.ifCond .lt 15, 3) := by decide +kernel
theorem dX6_has_4 : decode cX6_has 4 = .ok (.iload_n 1, 1) := by decide +kernel
theorem dX6_has_5 : decode cX6_has 5 = .ok (.aload_n 0, 1) := by decide +kernel
theorem dX6_has_6 : decode cX6_has 6 = .ok (.getfield 21, 3) := by decide +kernel
theorem dX6_has_9 : decode cX6_has 9 = .ok (.if_icmp .ge 7, 3) := by decide +kernel
theorem dX6_has_12 : decode cX6_has 12 = .ok (.iconst 1, 1) := by decide +kernel
theorem dX6_has_13 : decode cX6_has 13 = .ok (.goto 4, 3) := by decide +kernel
theorem dX6_has_16 : decode cX6_has 16 = .ok (.iconst 0, 1) := by decide +kernel
theorem dX6_has_17 : decode cX6_has 17 = .ok (.ireturn, 1) := by decide +kernel
theorem dX6_isOpen_0 : decode cX6_isOpen 0 = .ok (.aload_n 0, 1) := by decide +kernel
theorem dX6_isOpen_1 : decode cX6_isOpen 1 = .ok (.getfield 25, 3) := by decide +kernel
theorem dX6_isOpen_4 : decode cX6_isOpen 4 = .ok (.iload_n 1, 1) := by decide +kernel
theorem dX6_isOpen_5 : decode cX6_isOpen 5 = .ok (.ishr, 1) := by decide +kernel
theorem dX6_isOpen_6 : decode cX6_isOpen 6 = .ok (.iconst 1, 1) := by decide +kernel
theorem dX6_isOpen_7 : decode cX6_isOpen 7 = .ok (.iand, 1) := by decide +kernel
theorem dX6_isOpen_8 : decode cX6_isOpen 8 = .ok (.iconst 1, 1) := by decide +kernel
theorem dX6_isOpen_9 : decode cX6_isOpen 9 = .ok (.if_icmp .ne 7, 3) := by decide +kernel
theorem dX6_isOpen_12 : decode cX6_isOpen 12 = .ok (.iconst 1, 1) := by decide +kernel
theorem dX6_isOpen_13 : decode cX6_isOpen 13 = .ok (.goto 4, 3) := by decide +kernel
theorem dX6_isOpen_16 : decode cX6_isOpen 16 = .ok (.iconst 0, 1) := by decide +kernel
theorem dX6_isOpen_17 : decode cX6_isOpen 17 = .ok (.ireturn, 1) := by decide +kernel
theorem dX6_begin_0 : decode cX6_begin 0 = .ok (.aload_n 0, 1) := by decide +kernel
theorem dX6_begin_1 : decode cX6_begin 1 = .ok (.bipush 12, 2) := by decide +kernel
theorem dX6_begin_3 : decode cX6_begin 3 = .ok (.iload_n 1, 1) := by decide +kernel
theorem dX6_begin_4 : decode cX6_begin 4 = .ok (.invokestatic 28, 3) := by decide +kernel
theorem dX6_begin_7 : decode cX6_begin 7 = .ok (.putfield 21, 3) := by decide +kernel
theorem dX6_begin_10 : decode cX6_begin 10 = .ok (.aload_n 0, 1) := by decide +kernel
theorem dX6_begin_11 : decode cX6_begin 11 = .ok (.iconst 0, 1) := by decide +kernel
theorem dX6_begin_12 : decode cX6_begin 12 = .ok (.putfield 25, 3) := by decide +kernel
theorem dX6_begin_15 : decode cX6_begin 15 = .ok (.iconst 0, 1) := by decide +kernel
theorem dX6_begin_16 : decode cX6_begin 16 = .ok (.istore 4, 2) := by decide +kernel
theorem dX6_begin_18 : decode cX6_begin 18 = .ok (.iload 4, 2) := by decide +kernel
theorem dX6_begin_20 : decode cX6_begin 20 = .ok (.aload_n 0, 1) := by decide +kernel
theorem dX6_begin_21 : decode cX6_begin 21 = .ok (.getfield 21, 3) := by decide +kernel
theorem dX6_begin_24 : decode cX6_begin 24 = .ok (.if_icmp .ge 39, 3) := by decide +kernel
theorem dX6_begin_27 : decode cX6_begin 27 = .ok (.aload_n 0, 1) := by decide +kernel
theorem dX6_begin_28 : decode cX6_begin 28 = .ok (.getfield 11, 3) := by decide +kernel
theorem dX6_begin_31 : decode cX6_begin 31 = .ok (.iload 4, 2) := by decide +kernel
theorem dX6_begin_33 : decode cX6_begin 33 = .ok (.aload_n 2, 1) := by decide +kernel
theorem dX6_begin_34 : decode cX6_begin 34 = .ok (.iload 4, 2) := by decide +kernel
theorem dX6_begin_36 : decode cX6_begin 36 = .ok (.iaload, 1) := by decide +kernel
theorem dX6_begin_37 : decode cX6_begin 37 = .ok (.iastore, 1) := by decide +kernel
theorem dX6_begin_38 : decode cX6_begin 38 = .ok (.aload_n 0, 1) := by decide +kernel
theorem dX6_begin_39 : decode cX6_begin 39 = .ok (.getfield 15, 3) := by decide +kernel
theorem dX6_begin_42 : decode cX6_begin 42 = .ok (.iload 4, 2) := by decide +kernel
theorem dX6_begin_44 : decode cX6_begin 44 = .ok (.aload_n 3, 1) := by decide +kernel
theorem dX6_begin_45 : decode cX6_begin 45 = .ok (.iload 4, 2) := by decide +kernel
theorem dX6_begin_47 : decode cX6_begin 47 = .ok (.iaload, 1) := by decide +kernel
theorem dX6_begin_48 : decode cX6_begin 48 = .ok (.iastore, 1) := by decide +kernel
theorem dX6_begin_49 : decode cX6_begin 49 = .ok (.aload_n 0, 1) := by decide +kernel
theorem dX6_begin_50 : decode cX6_begin 50 = .ok (.getfield 18, 3) := by decide +kernel
theorem dX6_begin_53 : decode cX6_begin 53 = .ok (.iload 4, 2) := by decide +kernel
theorem dX6_begin_55 : decode cX6_begin 55 = .ok (.iconst 0, 1) := by decide +kernel
theorem dX6_begin_56 : decode cX6_begin 56 = .ok (.iastore, 1) := by decide +kernel
theorem dX6_begin_57 : decode cX6_begin 57 = .ok (.iinc 4 1, 3) := by decide +kernel
theorem dX6_begin_60 : decode cX6_begin 60 = .ok (.goto (-42), 3) := by decide +kernel
theorem dX6_begin_63 : decode cX6_begin 63 = .ok (.return_, 1) := by decide +kernel
theorem dX6_copyFrom_0 : decode cX6_copyFrom 0 = .ok (.aload_n 0, 1) := by decide +kernel
theorem dX6_copyFrom_1 : decode cX6_copyFrom 1 = .ok (.aload_n 1, 1) := by decide +kernel
theorem dX6_copyFrom_2 : decode cX6_copyFrom 2 = .ok (.getfield 21, 3) := by decide +kernel
theorem dX6_copyFrom_5 : decode cX6_copyFrom 5 = .ok (.putfield 21, 3) := by decide +kernel
theorem dX6_copyFrom_8 : decode cX6_copyFrom 8 = .ok (.aload_n 0, 1) := by decide +kernel
theorem dX6_copyFrom_9 : decode cX6_copyFrom 9 = .ok (.aload_n 1, 1) := by decide +kernel
theorem dX6_copyFrom_10 : decode cX6_copyFrom 10 = .ok (.getfield 25, 3) := by decide +kernel
theorem dX6_copyFrom_13 : decode cX6_copyFrom 13 = .ok (.putfield 25, 3) := by decide +kernel
theorem dX6_copyFrom_16 : decode cX6_copyFrom 16 = .ok (.iconst 0, 1) := by decide +kernel
theorem dX6_copyFrom_17 : decode cX6_copyFrom 17 = .ok (.istore_n 2, 1) := by decide +kernel
theorem dX6_copyFrom_18 : decode cX6_copyFrom 18 = .ok (.iload_n 2, 1) := by decide +kernel
theorem dX6_copyFrom_19 : decode cX6_copyFrom 19 = .ok (.aload_n 0, 1) := by decide +kernel
theorem dX6_copyFrom_20 : decode cX6_copyFrom 20 = .ok (.getfield 21, 3) := by decide +kernel
theorem dX6_copyFrom_23 : decode cX6_copyFrom 23 = .ok (.if_icmp .ge 45, 3) := by decide +kernel
theorem dX6_copyFrom_26 : decode cX6_copyFrom 26 = .ok (.aload_n 0, 1) := by decide +kernel
theorem dX6_copyFrom_27 : decode cX6_copyFrom 27 = .ok (.getfield 11, 3) := by decide +kernel
theorem dX6_copyFrom_30 : decode cX6_copyFrom 30 = .ok (.iload_n 2, 1) := by decide +kernel
theorem dX6_copyFrom_31 : decode cX6_copyFrom 31 = .ok (.aload_n 1, 1) := by decide +kernel
theorem dX6_copyFrom_32 : decode cX6_copyFrom 32 = .ok (.getfield 11, 3) := by decide +kernel
theorem dX6_copyFrom_35 : decode cX6_copyFrom 35 = .ok (.iload_n 2, 1) := by decide +kernel
theorem dX6_copyFrom_36 : decode cX6_copyFrom 36 = .ok (.iaload, 1) := by decide +kernel
theorem dX6_copyFrom_37 : decode cX6_copyFrom 37 = .ok (.iastore, 1) := by decide +kernel
theorem dX6_copyFrom_38 : decode cX6_copyFrom 38 = .ok (.aload_n 0, 1) := by decide +kernel
theorem dX6_copyFrom_39 : decode cX6_copyFrom 39 = .ok (.getfield 15, 3) := by decide +kernel
theorem dX6_copyFrom_42 : decode cX6_copyFrom 42 = .ok (.iload_n 2, 1) := by decide +kernel
theorem dX6_copyFrom_43 : decode cX6_copyFrom 43 = .ok (.aload_n 1, 1) := by decide +kernel
theorem dX6_copyFrom_44 : decode cX6_copyFrom 44 = .ok (.getfield 15, 3) := by decide +kernel
theorem dX6_copyFrom_47 : decode cX6_copyFrom 47 = .ok (.iload_n 2, 1) := by decide +kernel
theorem dX6_copyFrom_48 : decode cX6_copyFrom 48 = .ok (.iaload, 1) := by decide +kernel
theorem dX6_copyFrom_49 : decode cX6_copyFrom 49 = .ok (.iastore, 1) := by decide +kernel
theorem dX6_copyFrom_50 : decode cX6_copyFrom 50 = .ok (.aload_n 0, 1) := by decide +kernel
theorem dX6_copyFrom_51 : decode cX6_copyFrom 51 = .ok (.getfield 18, 3) := by decide +kernel
theorem dX6_copyFrom_54 : decode cX6_copyFrom 54 = .ok (.iload_n 2, 1) := by decide +kernel
theorem dX6_copyFrom_55 : decode cX6_copyFrom 55 = .ok (.aload_n 1, 1) := by decide +kernel
theorem dX6_copyFrom_56 : decode cX6_copyFrom 56 = .ok (.getfield 18, 3) := by decide +kernel
theorem dX6_copyFrom_59 : decode cX6_copyFrom 59 = .ok (.iload_n 2, 1) := by decide +kernel
theorem dX6_copyFrom_60 : decode cX6_copyFrom 60 = .ok (.iaload, 1) := by decide +kernel
theorem dX6_copyFrom_61 : decode cX6_copyFrom 61 = .ok (.iastore, 1) := by decide +kernel
theorem dX6_copyFrom_62 : decode cX6_copyFrom 62 = .ok (.iinc 2 1, 3) := by decide +kernel
theorem dX6_copyFrom_65 : decode cX6_copyFrom 65 = .ok (.goto (-47), 3) := by decide +kernel
theorem dX6_copyFrom_68 : decode cX6_copyFrom 68 = .ok (.return_, 1) := by decide +kernel
theorem dX6_iceTogether_0 : decode cX6_iceTogether 0 = .ok (.iconst 0, 1) := by decide +kernel
theorem dX6_iceTogether_1 : decode cX6_iceTogether 1 = .ok (.istore_n 1, 1) := by decide +kernel
theorem dX6_iceTogether_2 : decode cX6_iceTogether 2 = .ok (.iconst 0, 1) := by decide +kernel
theorem dX6_iceTogether_3 : decode cX6_iceTogether 3 = .ok (.istore_n 2, 1) := by decide +kernel
theorem dX6_iceTogether_4 : decode cX6_iceTogether 4 = .ok (.iload_n 2, 1) := by decide +kernel
theorem dX6_iceTogether_5 : decode cX6_iceTogether 5 = .ok (.aload_n 0, 1) := by decide +kernel
theorem dX6_iceTogether_6 : decode cX6_iceTogether 6 = .ok (.getfield 21, 3) := by decide +kernel
theorem dX6_iceTogether_9 : decode cX6_iceTogether 9 = .ok (.if_icmp .ge 18, 3) := by decide +kernel
theorem dX6_iceTogether_12 : decode cX6_iceTogether 12 = .ok (.iload_n 1, 1) := by decide +kernel
theorem dX6_iceTogether_13 : decode cX6_iceTogether 13 = .ok (.aload_n 0, 1) := by decide +kernel
theorem dX6_iceTogether_14 : decode cX6_iceTogether 14 = .ok (.getfield 15, 3) := by decide +kernel
theorem dX6_iceTogether_17 : decode cX6_iceTogether 17 = .ok (.iload_n 2, 1) := by decide +kernel
theorem dX6_iceTogether_18 : decode cX6_iceTogether 18 = .ok (.iaload, 1) := by decide +kernel
theorem dX6_iceTogether_19 : decode cX6_iceTogether 19 = .ok (.iadd, 1) := by decide +kernel
theorem dX6_iceTogether_20 : decode cX6_iceTogether 20 = .ok (.istore_n 1, 1) := by decide +kernel
theorem dX6_iceTogether_21 : decode cX6_iceTogether 21 = .ok (.iinc 2 1, 3) := by decide +kernel
theorem dX6_iceTogether_24 : decode cX6_iceTogether 24 = .ok (.goto (-20), 3) := by decide +kernel
theorem dX6_iceTogether_27 : decode cX6_iceTogether 27 = .ok (.iload_n 1, 1) := by decide +kernel
theorem dX6_iceTogether_28 : decode cX6_iceTogether 28 = .ok (.ireturn, 1) := by decide +kernel
theorem dX6_growth_0 : decode cX6_growth 0 = .ok (.bipush 10, 2) := by decide +kernel
theorem dX6_growth_2 : decode cX6_growth 2 = .ok (.iload_n 1, 1) := by decide +kernel
theorem dX6_growth_3 : decode cX6_growth 3 = .ok (.iadd, 1) := by decide +kernel
theorem dX6_growth_4 : decode cX6_growth 4 = .ok (.istore_n 3, 1) := by decide +kernel
theorem dX6_growth_5 : decode cX6_growth 5 = .ok (.iload_n 3, 1) := by decide +kernel
theorem dX6_growth_6 : decode cX6_growth 6 = .ok (.iconst 1, 1) := by decide +kernel
theorem dX6_growth_7 : decode cX6_growth 7 = .ok (.if_icmp .ge 5, 3) := by decide +kernel
theorem dX6_growth_10 : decode cX6_growth 10 = .ok (.iconst 0, 1) := by decide +kernel
theorem dX6_growth_11 : decode cX6_growth 11 = .ok (.ireturn, 1) := by decide +kernel
theorem dX6_growth_12 : decode cX6_growth 12 = .ok (.bipush 20, 2) := by decide +kernel
theorem dX6_growth_14 : decode cX6_growth 14 = .ok (.iload_n 2, 1) := by decide +kernel
theorem dX6_growth_15 : decode cX6_growth 15 = .ok (.imul, 1) := by decide +kernel
theorem dX6_growth_16 : decode cX6_growth 16 = .ok (.iload_n 3, 1) := by decide +kernel
theorem dX6_growth_17 : decode cX6_growth 17 = .ok (.idiv, 1) := by decide +kernel
theorem dX6_growth_18 : decode cX6_growth 18 = .ok (.istore 4, 2) := by decide +kernel
theorem dX6_growth_20 : decode cX6_growth 20 = .ok (.iload_n 0, 1) := by decide +kernel
theorem dX6_growth_21 : decode cX6_growth 21 = .ok (.iconst 1, 1) := by decide +kernel
theorem dX6_growth_22 : decode cX6_growth 22 = .ok (.if_icmp .ne 11, 3) := by decide +kernel
theorem dX6_growth_25 : decode cX6_growth 25 = .ok (.iload 4, 2) := by decide +kernel
theorem dX6_growth_27 : decode cX6_growth 27 = .ok (.iload 4, 2) := by decide +kernel
theorem dX6_growth_29 : decode cX6_growth 29 = .ok (.iconst 2, 1) := by decide +kernel
theorem dX6_growth_30 : decode cX6_growth 30 = .ok (.idiv, 1) := by decide +kernel
theorem dX6_growth_31 : decode cX6_growth 31 = .ok (.iadd, 1) := by decide +kernel
theorem dX6_growth_32 : decode cX6_growth 32 = .ok (.ireturn, 1) := by decide +kernel
theorem dX6_growth_33 : decode cX6_growth 33 = .ok (.iload_n 0, 1) := by decide +kernel
theorem dX6_growth_34 : decode cX6_growth 34 = .ok (.iconst 3, 1) := by decide +kernel
theorem dX6_growth_35 : decode cX6_growth 35 = .ok (.if_icmp .ne 10, 3) := by decide +kernel
theorem dX6_growth_38 : decode cX6_growth 38 = .ok (.iload 4, 2) := by decide +kernel
theorem dX6_growth_40 : decode cX6_growth 40 = .ok (.iconst 2, 1) := by decide +kernel
theorem dX6_growth_41 : decode cX6_growth 41 = .ok (.idiv, 1) := by decide +kernel
theorem dX6_growth_42 : decode cX6_growth 42 = .ok (.goto 5, 3) := by decide +kernel
theorem dX6_growth_45 : decode cX6_growth 45 = .ok (.iload 4, 2) := by decide +kernel
theorem dX6_growth_47 : decode cX6_growth 47 = .ok (.ireturn, 1) := by decide +kernel
set_option maxRecDepth 20000 in
theorem ggX6_thicker_X6_growth : GoodIn wsX6_thicker wsX6_growth := goodIn_r _ [8] (by decide +kernel) (by decide +kernel)
set_option maxRecDepth 20000 in
theorem gX6_thicker_X6_growth : GoodIn wsX6_thicker (va_wsS RX6 34 yX6_growth wsX6_growth) := goodIn_app (goodIn_of _ (by decide +kernel)) ggX6_thicker_X6_growth
theorem dX6_thicker_0 : decode cX6_thicker 0 = .ok (.sipush 300, 3) := by decide +kernel
theorem dX6_thicker_3 : decode cX6_thicker 3 = .ok (.iload_n 1, 1) := by decide +kernel
theorem dX6_thicker_4 : decode cX6_thicker 4 = .ok (.iload_n 0, 1) := by decide +kernel
theorem dX6_thicker_5 : decode cX6_thicker 5 = .ok (.iload_n 1, 1) := by decide +kernel
theorem dX6_thicker_6 : decode cX6_thicker 6 = .ok (.iload_n 2, 1) := by decide +kernel
theorem dX6_thicker_7 : decode cX6_thicker 7 = .ok (.invokestatic 34, 3) := by decide +kernel
theorem dX6_thicker_10 : decode cX6_thicker 10 = .ok (.iadd, 1) := by decide +kernel
theorem dX6_thicker_11 : decode cX6_thicker 11 = .ok (.invokestatic 28, 3) := by decide +kernel
theorem dX6_thicker_14 : decode cX6_thicker 14 = .ok (.ireturn, 1) := by decide +kernel
theorem dX6_kindOnceShut_0 : decode cX6_kindOnceShut 0 = .ok (.iload_n 0, 1) := by decide +kernel
theorem dX6_kindOnceShut_1 : decode cX6_kindOnceShut 1 = .ok (.ifCond .ne 7, 3) := by decide +kernel
theorem dX6_kindOnceShut_4 : decode cX6_kindOnceShut 4 = .ok (.iconst 1, 1) := by decide +kernel
theorem dX6_kindOnceShut_5 : decode cX6_kindOnceShut 5 = .ok (.goto 4, 3) := by decide +kernel
theorem dX6_kindOnceShut_8 : decode cX6_kindOnceShut 8 = .ok (.iload_n 0, 1) := by decide +kernel
theorem dX6_kindOnceShut_9 : decode cX6_kindOnceShut 9 = .ok (.ireturn, 1) := by decide +kernel
set_option maxRecDepth 20000 in
theorem ggX6_freeze_X6_shutOpen : GoodIn wsX6_freeze wsX6_shutOpen := goodIn_r _ [8, 9, 1, 2, 10, 3, 11, 12, 13, 7, 14, 15, 16, 17, 28, 29, 30, 31, 32] (by decide +kernel) (by decide +kernel)
set_option maxRecDepth 20000 in
theorem gX6_freeze_X6_shutOpen : GoodIn wsX6_freeze (wsV RX6 38 RX6 yX6_shutOpen wsX6_shutOpen) := goodIn_app (goodIn_of _ (by decide +kernel)) ggX6_freeze_X6_shutOpen
set_option maxRecDepth 20000 in
theorem ggX6_freeze_X6_thicker : GoodIn wsX6_freeze wsX6_thicker := goodIn_r _ [20, 21, 22, 23, 24, 25, 26, 7, 27] (by decide +kernel) (by decide +kernel)
set_option maxRecDepth 20000 in
theorem gX6_freeze_X6_thicker : GoodIn wsX6_freeze (va_wsS RX6 41 yX6_thicker wsX6_thicker) := goodIn_app (goodIn_of _ (by decide +kernel)) ggX6_freeze_X6_thicker
theorem dX6_freeze_0 : decode cX6_freeze 0 = .ok (.aload_n 0, 1) := by decide +kernel
theorem dX6_freeze_1 : decode cX6_freeze 1 = .ok (.invokevirtual 38, 3) := by decide +kernel
theorem dX6_freeze_4 : decode cX6_freeze 4 = .ok (.iconst 0, 1) := by decide +kernel
theorem dX6_freeze_5 : decode cX6_freeze 5 = .ok (.istore_n 2, 1) := by decide +kernel
theorem dX6_freeze_6 : decode cX6_freeze 6 = .ok (.iload_n 2, 1) := by decide +kernel
theorem dX6_freeze_7 : decode cX6_freeze 7 = .ok (.aload_n 0, 1) := by decide +kernel
theorem dX6_freeze_8 : decode cX6_freeze 8 = .ok (.getfield 21, 3) := by decide +kernel
theorem dX6_freeze_11 : decode cX6_freeze 11 = .ok (.if_icmp .ge 31, 3) := by decide +kernel
theorem dX6_freeze_14 : decode cX6_freeze 14 = .ok (.aload_n 0, 1) := by decide +kernel
theorem dX6_freeze_15 : decode cX6_freeze 15 = .ok (.getfield 15, 3) := by decide +kernel
theorem dX6_freeze_18 : decode cX6_freeze 18 = .ok (.iload_n 2, 1) := by decide +kernel
theorem dX6_freeze_19 : decode cX6_freeze 19 = .ok (.aload_n 0, 1) := by decide +kernel
theorem dX6_freeze_20 : decode cX6_freeze 20 = .ok (.getfield 11, 3) := by decide +kernel
theorem dX6_freeze_23 : decode cX6_freeze 23 = .ok (.iload_n 2, 1) := by decide +kernel
theorem dX6_freeze_24 : decode cX6_freeze 24 = .ok (.iaload, 1) := by decide +kernel
theorem dX6_freeze_25 : decode cX6_freeze 25 = .ok (.aload_n 0, 1) := by decide +kernel
theorem dX6_freeze_26 : decode cX6_freeze 26 = .ok (.getfield 15, 3) := by decide +kernel
theorem dX6_freeze_29 : decode cX6_freeze 29 = .ok (.iload_n 2, 1) := by decide +kernel
theorem dX6_freeze_30 : decode cX6_freeze 30 = .ok (.iaload, 1) := by decide +kernel
theorem dX6_freeze_31 : decode cX6_freeze 31 = .ok (.iload_n 1, 1) := by decide +kernel
theorem dX6_freeze_32 : decode cX6_freeze 32 = .ok (.invokestatic 41, 3) := by decide +kernel
theorem dX6_freeze_35 : decode cX6_freeze 35 = .ok (.iastore, 1) := by decide +kernel
theorem dX6_freeze_36 : decode cX6_freeze 36 = .ok (.iinc 2 1, 3) := by decide +kernel
theorem dX6_freeze_39 : decode cX6_freeze 39 = .ok (.goto (-33), 3) := by decide +kernel
theorem dX6_freeze_42 : decode cX6_freeze 42 = .ok (.return_, 1) := by decide +kernel
set_option maxRecDepth 20000 in
theorem ggX6_melt_X6_shutOpen : GoodIn wsX6_melt wsX6_shutOpen := goodIn_r _ [11, 12, 1, 2, 13, 14, 15, 16, 17, 10, 18, 19, 20, 21, 22, 23, 24, 25, 26] (by decide +kernel) (by decide +kernel)
set_option maxRecDepth 20000 in
theorem gX6_melt_X6_shutOpen : GoodIn wsX6_melt (wsV RX6 38 RX6 yX6_shutOpen wsX6_shutOpen) := goodIn_app (goodIn_of _ (by decide +kernel)) ggX6_melt_X6_shutOpen
theorem dX6_melt_0 : decode cX6_melt 0 = .ok (.aload_n 0, 1) := by decide +kernel
theorem dX6_melt_1 : decode cX6_melt 1 = .ok (.invokevirtual 38, 3) := by decide +kernel
theorem dX6_melt_4 : decode cX6_melt 4 = .ok (.iconst 0, 1) := by decide +kernel
theorem dX6_melt_5 : decode cX6_melt 5 = .ok (.istore_n 2, 1) := by decide +kernel
theorem dX6_melt_6 : decode cX6_melt 6 = .ok (.iload_n 2, 1) := by decide +kernel
theorem dX6_melt_7 : decode cX6_melt 7 = .ok (.aload_n 0, 1) := by decide +kernel
theorem dX6_melt_8 : decode cX6_melt 8 = .ok (.getfield 21, 3) := by decide +kernel
theorem dX6_melt_11 : decode cX6_melt 11 = .ok (.if_icmp .ge 27, 3) := by decide +kernel
theorem dX6_melt_14 : decode cX6_melt 14 = .ok (.aload_n 0, 1) := by decide +kernel
theorem dX6_melt_15 : decode cX6_melt 15 = .ok (.getfield 15, 3) := by decide +kernel
theorem dX6_melt_18 : decode cX6_melt 18 = .ok (.iload_n 2, 1) := by decide +kernel
theorem dX6_melt_19 : decode cX6_melt 19 = .ok (.iconst 0, 1) := by decide +kernel
theorem dX6_melt_20 : decode cX6_melt 20 = .ok (.aload_n 0, 1) := by decide +kernel
theorem dX6_melt_21 : decode cX6_melt 21 = .ok (.getfield 15, 3) := by decide +kernel
theorem dX6_melt_24 : decode cX6_melt 24 = .ok (.iload_n 2, 1) := by decide +kernel
theorem dX6_melt_25 : decode cX6_melt 25 = .ok (.iaload, 1) := by decide +kernel
theorem dX6_melt_26 : decode cX6_melt 26 = .ok (.iload_n 1, 1) := by decide +kernel
theorem dX6_melt_27 : decode cX6_melt 27 = .ok (.isub, 1) := by decide +kernel
theorem dX6_melt_28 : decode cX6_melt 28 = .ok (.invokestatic 44, 3) := by decide +kernel
theorem dX6_melt_31 : decode cX6_melt 31 = .ok (.iastore, 1) := by decide +kernel
theorem dX6_melt_32 : decode cX6_melt 32 = .ok (.iinc 2 1, 3) := by decide +kernel
theorem dX6_melt_35 : decode cX6_melt 35 = .ok (.goto (-29), 3) := by decide +kernel
theorem dX6_melt_38 : decode cX6_melt 38 = .ok (.return_, 1) := by decide +kernel
set_option maxRecDepth 20000 in
theorem ggX6_shutOpen_X6_isOpen : GoodIn wsX6_shutOpen wsX6_isOpen := goodIn_r _ [10, 1, 14, 15, 16, 17, 18] (by decide +kernel) (by decide +kernel)
set_option maxRecDepth 20000 in
theorem gX6_shutOpen_X6_isOpen : GoodIn wsX6_shutOpen (wsV RX6 47 RX6 yX6_isOpen wsX6_isOpen) := goodIn_app (goodIn_of _ (by decide +kernel)) ggX6_shutOpen_X6_isOpen
set_option maxRecDepth 20000 in
theorem ggX6_shutOpen_X6_kindOnceShut : GoodIn wsX6_shutOpen wsX6_kindOnceShut := goodIn_r _ [13] (by decide +kernel) (by decide +kernel)
set_option maxRecDepth 20000 in
theorem gX6_shutOpen_X6_kindOnceShut : GoodIn wsX6_shutOpen (va_wsS RX6 51 yX6_kindOnceShut wsX6_kindOnceShut) := goodIn_app (goodIn_of _ (by decide +kernel)) ggX6_shutOpen_X6_kindOnceShut
theorem dX6_shutOpen_0 : decode cX6_shutOpen 0 = .ok (.aload_n 0, 1) := by decide +kernel
theorem dX6_shutOpen_1 : decode cX6_shutOpen 1 = .ok (.getfield 25, 3) := by decide +kernel
theorem dX6_shutOpen_4 : decode cX6_shutOpen 4 = .ok (.ifCond .ne 4, 3) := by decide +kernel
theorem dX6_shutOpen_7 : decode cX6_shutOpen 7 = .ok (.return_, 1) := by decide +kernel
theorem dX6_shutOpen_8 : decode cX6_shutOpen 8 = .ok (.iconst 0, 1) := by decide +kernel
theorem dX6_shutOpen_9 : decode cX6_shutOpen 9 = .ok (.istore_n 1, 1) := by decide +kernel
theorem dX6_shutOpen_10 : decode cX6_shutOpen 10 = .ok (.iload_n 1, 1) := by decide +kernel
theorem dX6_shutOpen_11 : decode cX6_shutOpen 11 = .ok (.aload_n 0, 1) := by decide +kernel
theorem dX6_shutOpen_12 : decode cX6_shutOpen 12 = .ok (.getfield 21, 3) := by decide +kernel
theorem dX6_shutOpen_15 : decode cX6_shutOpen 15 = .ok (.if_icmp .ge 53, 3) := by decide +kernel
theorem dX6_shutOpen_18 : decode cX6_shutOpen 18 = .ok (.aload_n 0, 1) := by decide +kernel
theorem dX6_shutOpen_19 : decode cX6_shutOpen 19 = .ok (.iload_n 1, 1) := by decide +kernel
theorem dX6_shutOpen_20 : decode cX6_shutOpen 20 = .ok (.invokevirtual 47, 3) := by decide +kernel
theorem dX6_shutOpen_23 : decode cX6_shutOpen 23 = .ok (.ifCond .eq 39, 3) := by decide +kernel
theorem dX6_shutOpen_26 : decode cX6_shutOpen 26 = .ok (.aload_n 0, 1) := by decide +kernel
theorem dX6_shutOpen_27 : decode cX6_shutOpen 27 = .ok (.getfield 15, 3) := by decide +kernel
theorem dX6_shutOpen_30 : decode cX6_shutOpen 30 = .ok (.iload_n 1, 1) := by decide +kernel
theorem dX6_shutOpen_31 : decode cX6_shutOpen 31 = .ok (.aload_n 0, 1) := by decide +kernel
theorem dX6_shutOpen_32 : decode cX6_shutOpen 32 = .ok (.getfield 18, 3) := by decide +kernel
theorem dX6_shutOpen_35 : decode cX6_shutOpen 35 = .ok (.iload_n 1, 1) := by decide +kernel
theorem dX6_shutOpen_36 : decode cX6_shutOpen 36 = .ok (.iaload, 1) := by decide +kernel
theorem dX6_shutOpen_37 : decode cX6_shutOpen 37 = .ok (.iconst 3, 1) := by decide +kernel
theorem dX6_shutOpen_38 : decode cX6_shutOpen 38 = .ok (.idiv, 1) := by decide +kernel
theorem dX6_shutOpen_39 : decode cX6_shutOpen 39 = .ok (.iastore, 1) := by decide +kernel
theorem dX6_shutOpen_40 : decode cX6_shutOpen 40 = .ok (.aload_n 0, 1) := by decide +kernel
theorem dX6_shutOpen_41 : decode cX6_shutOpen 41 = .ok (.getfield 11, 3) := by decide +kernel
theorem dX6_shutOpen_44 : decode cX6_shutOpen 44 = .ok (.iload_n 1, 1) := by decide +kernel
theorem dX6_shutOpen_45 : decode cX6_shutOpen 45 = .ok (.aload_n 0, 1) := by decide +kernel
theorem dX6_shutOpen_46 : decode cX6_shutOpen 46 = .ok (.getfield 11, 3) := by decide +kernel
theorem dX6_shutOpen_49 : decode cX6_shutOpen 49 = .ok (.iload_n 1, 1) := by decide +kernel
theorem dX6_shutOpen_50 : decode cX6_shutOpen 50 = .ok (.iaload, 1) := by decide +kernel
theorem dX6_shutOpen_51 : decode cX6_shutOpen 51 = .ok (.invokestatic 51, 3) := by decide +kernel
theorem dX6_shutOpen_54 : decode cX6_shutOpen 54 = .ok (.iastore, 1) := by decide +kernel
theorem dX6_shutOpen_55 : decode cX6_shutOpen 55 = .ok (.aload_n 0, 1) := by decide +kernel
theorem dX6_shutOpen_56 : decode cX6_shutOpen 56 = .ok (.getfield 18, 3) := by decide +kernel
theorem dX6_shutOpen_59 : decode cX6_shutOpen 59 = .ok (.iload_n 1, 1) := by decide +kernel
theorem dX6_shutOpen_60 : decode cX6_shutOpen 60 = .ok (.iconst 0, 1) := by decide +kernel
theorem dX6_shutOpen_61 : decode cX6_shutOpen 61 = .ok (.iastore, 1) := by decide +kernel
theorem dX6_shutOpen_62 : decode cX6_shutOpen 62 = .ok (.iinc 1 1, 3) := by decide +kernel
theorem dX6_shutOpen_65 : decode cX6_shutOpen 65 = .ok (.goto (-55), 3) := by decide +kernel
theorem dX6_shutOpen_68 : decode cX6_shutOpen 68 = .ok (.aload_n 0, 1) := by decide +kernel
theorem dX6_shutOpen_69 : decode cX6_shutOpen 69 = .ok (.iconst 0, 1) := by decide +kernel
theorem dX6_shutOpen_70 : decode cX6_shutOpen 70 = .ok (.putfield 25, 3) := by decide +kernel
theorem dX6_shutOpen_73 : decode cX6_shutOpen 73 = .ok (.return_, 1) := by decide +kernel
theorem dX6_openFirst_0 : decode cX6_openFirst 0 = .ok (.iconst 0, 1) := by decide +kernel
theorem dX6_openFirst_1 : decode cX6_openFirst 1 = .ok (.istore_n 2, 1) := by decide +kernel
theorem dX6_openFirst_2 : decode cX6_openFirst 2 = .ok (.iload_n 2, 1) := by decide +kernel
theorem dX6_openFirst_3 : decode cX6_openFirst 3 = .ok (.iload_n 1, 1) := by decide +kernel
theorem dX6_openFirst_4 : decode cX6_openFirst 4 = .ok (.if_icmp .ge 57, 3) := by decide +kernel
theorem dX6_openFirst_7 : decode cX6_openFirst 7 = .ok (.iload_n 2, 1) := by decide +kernel
theorem dX6_openFirst_8 : decode cX6_openFirst 8 = .ok (.aload_n 0, 1) := by decide +kernel
theorem dX6_openFirst_9 : decode cX6_openFirst 9 = .ok (.getfield 21, 3) := by decide +kernel
theorem dX6_openFirst_12 : decode cX6_openFirst 12 = .ok (.if_icmp .ge 49, 3) := by decide +kernel
theorem dX6_openFirst_15 : decode cX6_openFirst 15 = .ok (.aload_n 0, 1) := by decide +kernel
theorem dX6_openFirst_16 : decode cX6_openFirst 16 = .ok (.getfield 15, 3) := by decide +kernel
theorem dX6_openFirst_19 : decode cX6_openFirst 19 = .ok (.iload_n 2, 1) := by decide +kernel
theorem dX6_openFirst_20 : decode cX6_openFirst 20 = .ok (.iaload, 1) := by decide +kernel
theorem dX6_openFirst_21 : decode cX6_openFirst 21 = .ok (.ifCond .le 34, 3) := by decide +kernel
theorem dX6_openFirst_24 : decode cX6_openFirst 24 = .ok (.aload_n 0, 1) := by decide +kernel
theorem dX6_openFirst_25 : decode cX6_openFirst 25 = .ok (.dup, 1) := by decide +kernel
theorem dX6_openFirst_26 : decode cX6_openFirst 26 = .ok (.getfield 25, 3) := by decide +kernel
theorem dX6_openFirst_29 : decode cX6_openFirst 29 = .ok (.iconst 1, 1) := by decide +kernel
theorem dX6_openFirst_30 : decode cX6_openFirst 30 = .ok (.iload_n 2, 1) := by decide +kernel
theorem dX6_openFirst_31 : decode cX6_openFirst 31 = .ok (.ishl, 1) := by decide +kernel
theorem dX6_openFirst_32 : decode cX6_openFirst 32 = .ok (.ior, 1) := by decide +kernel
theorem dX6_openFirst_33 : decode cX6_openFirst 33 = .ok (.putfield 25, 3) := by decide +kernel
theorem dX6_openFirst_36 : decode cX6_openFirst 36 = .ok (.aload_n 0, 1) := by decide +kernel
theorem dX6_openFirst_37 : decode cX6_openFirst 37 = .ok (.getfield 18, 3) := by decide +kernel
theorem dX6_openFirst_40 : decode cX6_openFirst 40 = .ok (.iload_n 2, 1) := by decide +kernel
theorem dX6_openFirst_41 : decode cX6_openFirst 41 = .ok (.aload_n 0, 1) := by decide +kernel
theorem dX6_openFirst_42 : decode cX6_openFirst 42 = .ok (.getfield 15, 3) := by decide +kernel
theorem dX6_openFirst_45 : decode cX6_openFirst 45 = .ok (.iload_n 2, 1) := by decide +kernel
theorem dX6_openFirst_46 : decode cX6_openFirst 46 = .ok (.iaload, 1) := by decide +kernel
theorem dX6_openFirst_47 : decode cX6_openFirst 47 = .ok (.iastore, 1) := by decide +kernel
theorem dX6_openFirst_48 : decode cX6_openFirst 48 = .ok (.aload_n 0, 1) := by decide +kernel
theorem dX6_openFirst_49 : decode cX6_openFirst 49 = .ok (.getfield 15, 3) := by decide +kernel
theorem dX6_openFirst_52 : decode cX6_openFirst 52 = .ok (.iload_n 2, 1) := by decide +kernel
theorem dX6_openFirst_53 : decode cX6_openFirst 53 = .ok (.iconst 0, 1) := by decide +kernel
theorem dX6_openFirst_54 : decode cX6_openFirst 54 = .ok (.iastore, 1) := by decide +kernel
theorem dX6_openFirst_55 : decode cX6_openFirst 55 = .ok (.iinc 2 1, 3) := by decide +kernel
theorem dX6_openFirst_58 : decode cX6_openFirst 58 = .ok (.goto (-56), 3) := by decide +kernel
theorem dX6_openFirst_61 : decode cX6_openFirst 61 = .ok (.return_, 1) := by decide +kernel
set_option maxRecDepth 20000 in
theorem ggX6_iceIfOf_X6_isOpen : GoodIn wsX6_iceIfOf wsX6_isOpen := goodIn_r _ [7, 8, 22, 23, 24, 25, 26] (by decide +kernel) (by decide +kernel)
set_option maxRecDepth 20000 in
theorem gX6_iceIfOf_X6_isOpen : GoodIn wsX6_iceIfOf (wsV RX6 47 RX6 yX6_isOpen wsX6_isOpen) := goodIn_app (goodIn_of _ (by decide +kernel)) ggX6_iceIfOf_X6_isOpen
set_option maxRecDepth 20000 in
theorem ggX6_iceIfOf_X6_kindOnceShut : GoodIn wsX6_iceIfOf wsX6_kindOnceShut := goodIn_r _ [11] (by decide +kernel) (by decide +kernel)
set_option maxRecDepth 20000 in
theorem gX6_iceIfOf_X6_kindOnceShut : GoodIn wsX6_iceIfOf (va_wsS RX6 51 yX6_kindOnceShut wsX6_kindOnceShut) := goodIn_app (goodIn_of _ (by decide +kernel)) ggX6_iceIfOf_X6_kindOnceShut
set_option maxRecDepth 20000 in
theorem ggX6_iceIfOf_X6_thicker : GoodIn wsX6_iceIfOf wsX6_thicker := goodIn_r _ [14, 15, 16, 17, 18, 19, 20, 6, 21] (by decide +kernel) (by decide +kernel)
set_option maxRecDepth 20000 in
theorem gX6_iceIfOf_X6_thicker : GoodIn wsX6_iceIfOf (va_wsS RX6 41 yX6_thicker wsX6_thicker) := goodIn_app (goodIn_of _ (by decide +kernel)) ggX6_iceIfOf_X6_thicker
theorem dX6_iceIfOf_0 : decode cX6_iceIfOf 0 = .ok (.iload_n 1, 1) := by decide +kernel
theorem dX6_iceIfOf_1 : decode cX6_iceIfOf 1 = .ok (.istore 5, 2) := by decide +kernel
theorem dX6_iceIfOf_3 : decode cX6_iceIfOf 3 = .ok (.aload_n 0, 1) := by decide +kernel
theorem dX6_iceIfOf_4 : decode cX6_iceIfOf 4 = .ok (.getfield 15, 3) := by decide +kernel
theorem dX6_iceIfOf_7 : decode cX6_iceIfOf 7 = .ok (.iload_n 2, 1) := by decide +kernel
theorem dX6_iceIfOf_8 : decode cX6_iceIfOf 8 = .ok (.iaload, 1) := by decide +kernel
theorem dX6_iceIfOf_9 : decode cX6_iceIfOf 9 = .ok (.istore 6, 2) := by decide +kernel
theorem dX6_iceIfOf_11 : decode cX6_iceIfOf 11 = .ok (.iload_n 3, 1) := by decide +kernel
theorem dX6_iceIfOf_12 : decode cX6_iceIfOf 12 = .ok (.ifCond .le 27, 3) := by decide +kernel
theorem dX6_iceIfOf_15 : decode cX6_iceIfOf 15 = .ok (.aload_n 0, 1) := by decide +kernel
theorem dX6_iceIfOf_16 : decode cX6_iceIfOf 16 = .ok (.iload_n 2, 1) := by decide +kernel
theorem dX6_iceIfOf_17 : decode cX6_iceIfOf 17 = .ok (.invokevirtual 47, 3) := by decide +kernel
theorem dX6_iceIfOf_20 : decode cX6_iceIfOf 20 = .ok (.ifCond .eq 19, 3) := by decide +kernel
theorem dX6_iceIfOf_23 : decode cX6_iceIfOf 23 = .ok (.iload_n 1, 1) := by decide +kernel
theorem dX6_iceIfOf_24 : decode cX6_iceIfOf 24 = .ok (.invokestatic 51, 3) := by decide +kernel
theorem dX6_iceIfOf_27 : decode cX6_iceIfOf 27 = .ok (.istore 5, 2) := by decide +kernel
theorem dX6_iceIfOf_29 : decode cX6_iceIfOf 29 = .ok (.aload_n 0, 1) := by decide +kernel
theorem dX6_iceIfOf_30 : decode cX6_iceIfOf 30 = .ok (.getfield 18, 3) := by decide +kernel
theorem dX6_iceIfOf_33 : decode cX6_iceIfOf 33 = .ok (.iload_n 2, 1) := by decide +kernel
theorem dX6_iceIfOf_34 : decode cX6_iceIfOf 34 = .ok (.iaload, 1) := by decide +kernel
theorem dX6_iceIfOf_35 : decode cX6_iceIfOf 35 = .ok (.iconst 3, 1) := by decide +kernel
theorem dX6_iceIfOf_36 : decode cX6_iceIfOf 36 = .ok (.idiv, 1) := by decide +kernel
theorem dX6_iceIfOf_37 : decode cX6_iceIfOf 37 = .ok (.istore 6, 2) := by decide +kernel
theorem dX6_iceIfOf_39 : decode cX6_iceIfOf 39 = .ok (.iconst 0, 1) := by decide +kernel
theorem dX6_iceIfOf_40 : decode cX6_iceIfOf 40 = .ok (.istore 7, 2) := by decide +kernel
theorem dX6_iceIfOf_42 : decode cX6_iceIfOf 42 = .ok (.iload 7, 2) := by decide +kernel
theorem dX6_iceIfOf_44 : decode cX6_iceIfOf 44 = .ok (.iload_n 3, 1) := by decide +kernel
theorem dX6_iceIfOf_45 : decode cX6_iceIfOf 45 = .ok (.if_icmp .ge 20, 3) := by decide +kernel
theorem dX6_iceIfOf_48 : decode cX6_iceIfOf 48 = .ok (.iload 5, 2) := by decide +kernel
theorem dX6_iceIfOf_50 : decode cX6_iceIfOf 50 = .ok (.iload 6, 2) := by decide +kernel
theorem dX6_iceIfOf_52 : decode cX6_iceIfOf 52 = .ok (.iload 4, 2) := by decide +kernel
theorem dX6_iceIfOf_54 : decode cX6_iceIfOf 54 = .ok (.invokestatic 41, 3) := by decide +kernel
theorem dX6_iceIfOf_57 : decode cX6_iceIfOf 57 = .ok (.istore 6, 2) := by decide +kernel
theorem dX6_iceIfOf_59 : decode cX6_iceIfOf 59 = .ok (.iinc 7 1, 3) := by decide +kernel
theorem dX6_iceIfOf_62 : decode cX6_iceIfOf 62 = .ok (.goto (-20), 3) := by decide +kernel
theorem dX6_iceIfOf_65 : decode cX6_iceIfOf 65 = .ok (.iload 6, 2) := by decide +kernel
theorem dX6_iceIfOf_67 : decode cX6_iceIfOf 67 = .ok (.ireturn, 1) := by decide +kernel
set_option maxRecDepth 20000 in
theorem ggX7_init_X3_init : GoodIn wsX7_init wsX3_init := goodIn_r _ [37, 38, 2, 3, 39, 40, 41, 42, 43, 44, 84, 85, 86, 87, 88, 89, 90, 91, 92, 93] (by decide +kernel) (by decide +kernel)
set_option maxRecDepth 20000 in
theorem gX7_init_X3_init_n9 : GoodIn wsX7_init (wsX3_init) := ggX7_init_X3_init
set_option maxRecDepth 20000 in
theorem ggX7_init_X0_init : GoodIn wsX7_init wsX0_init := goodIn_r _ [47, 48, 2, 3, 39, 49, 50, 104] (by decide +kernel) (by decide +kernel)
set_option maxRecDepth 20000 in
theorem gX7_init_X0_init : GoodIn wsX7_init (wsX0_init) := ggX7_init_X0_init
set_option maxRecDepth 20000 in
theorem ggX7_init_X5_init : GoodIn wsX7_init wsX5_init := goodIn_r _ [52, 53, 2, 3, 54, 28, 29, 55, 56, 57, 58, 59, 39, 60, 61, 62, 121, 122, 123, 124, 125, 105, 106, 107, 108] (by decide +kernel) (by decide +kernel)
set_option maxRecDepth 20000 in
theorem gX7_init_X5_init_n25 : GoodIn wsX7_init (wsX5_init) := ggX7_init_X5_init
set_option maxRecDepth 20000 in
theorem ggX7_init_X1_init : GoodIn wsX7_init wsX1_init := goodIn_r _ [64, 65, 2, 3, 39, 66, 67, 68, 69, 70, 71, 109, 110, 111, 112, 113, 114, 115, 116] (by decide +kernel) (by decide +kernel)
set_option maxRecDepth 20000 in
theorem gX7_init_X1_init_n40 : GoodIn wsX7_init (wsX1_init) := ggX7_init_X1_init
set_option maxRecDepth 20000 in
theorem ggX7_init_X4_init : GoodIn wsX7_init wsX4_init := goodIn_r _ [73, 74, 2, 3, 39, 75, 117, 118, 119, 120] (by decide +kernel) (by decide +kernel)
set_option maxRecDepth 20000 in
theorem gX7_init_X4_init_n47 : GoodIn wsX7_init (wsX4_init) := ggX7_init_X4_init
set_option maxRecDepth 20000 in
theorem ggX7_init_X6_init : GoodIn wsX7_init wsX6_init := goodIn_r _ [58, 59, 2, 3, 39, 60, 61, 62, 121, 122, 123, 124, 125] (by decide +kernel) (by decide +kernel)
set_option maxRecDepth 20000 in
theorem gX7_init_X6_init_n54 : GoodIn wsX7_init (wsX6_init) := ggX7_init_X6_init
set_option maxRecDepth 20000 in
theorem ggX7_init_X2_init : GoodIn wsX7_init wsX2_init := goodIn_r _ [78, 79, 2, 3, 80, 24, 25, 81, 82, 83, 28, 29, 72, 73, 74, 39, 75, 57, 58, 59, 60, 61, 62, 117, 118, 119, 120, 126, 127, 128, 129, 130, 131, 132, 133, 134, 135, 136, 137, 138, 139, 121, 122, 123, 124, 125] (by decide +kernel) (by decide +kernel)
set_option maxRecDepth 20000 in
theorem gX7_init_X2_init : GoodIn wsX7_init (wsX2_init) := ggX7_init_X2_init
