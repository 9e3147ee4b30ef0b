theorem dX0_setAhead_79 : decode cX0_setAhead 79 = .ok (.iload 4, 2) := by decide +kernel
theorem dX0_setAhead_81 : decode cX0_setAhead 81 = .ok (.isub, 1) := by decide +kernel
theorem dX0_setAhead_82 : decode cX0_setAhead 82 = .ok (.aload_n 0, 1) := by decide +kernel
theorem dX0_setAhead_83 : decode cX0_setAhead 83 = .ok (.iload_n 1, 1) := by decide +kernel
theorem dX0_setAhead_84 : decode cX0_setAhead 84 = .ok (.iload_n 2, 1) := by decide +kernel
theorem dX0_setAhead_85 : decode cX0_setAhead 85 = .ok (.invokevirtual 42, 3) := by decide +kernel
theorem dX0_setAhead_88 : decode cX0_setAhead 88 = .ok (.aload_n 0, 1) := by decide +kernel
theorem dX0_setAhead_89 : decode cX0_setAhead 89 = .ok (.iload_n 1, 1) := by decide +kernel
theorem dX0_setAhead_90 : decode cX0_setAhead 90 = .ok (.iload_n 2, 1) := by decide +kernel
theorem dX0_setAhead_91 : decode cX0_setAhead 91 = .ok (.invokevirtual 38, 3) := by decide +kernel
theorem dX0_setAhead_94 : decode cX0_setAhead 94 = .ok (.isub, 1) := by decide +kernel
theorem dX0_setAhead_95 : decode cX0_setAhead 95 = .ok (.invokestatic 60, 3) := by decide +kernel
theorem dX0_setAhead_98 : decode cX0_setAhead 98 = .ok (.isub, 1) := by decide +kernel
theorem dX0_setAhead_99 : decode cX0_setAhead 99 = .ok (.ireturn, 1) := by decide +kernel
theorem dX0_share_0 : decode cX0_share 0 = .ok (.iload_n 2, 1) := by decide +kernel
theorem dX0_share_1 : decode cX0_share 1 = .ok (.ifCond .le 11, 3) := by decide +kernel
theorem dX0_share_4 : decode cX0_share 4 = .ok (.iload_n 0, 1) := by decide +kernel
theorem dX0_share_5 : decode cX0_share 5 = .ok (.iload_n 1, 1) := by decide +kernel
theorem dX0_share_6 : decode cX0_share 6 = .ok (.imul, 1) := by decide +kernel
theorem dX0_share_7 : decode cX0_share 7 = .ok (.iload_n 2, 1) := by decide +kernel
theorem dX0_share_8 : decode cX0_share 8 = .ok (.idiv, 1) := by decide +kernel
theorem dX0_share_9 : decode cX0_share 9 = .ok (.goto 4, 3) := by decide +kernel
theorem dX0_share_12 : decode cX0_share 12 = .ok (.iconst 0, 1) := by decide +kernel
theorem dX0_share_13 : decode cX0_share 13 = .ok (.ireturn, 1) := by decide +kernel
theorem dX1_init_0 : decode cX1_init 0 = .ok (.aload_n 0, 1) := by decide +kernel
theorem dX1_init_1 : decode cX1_init 1 = .ok (.invokespecial 5, 3) := by decide +kernel
theorem dX1_init_4 : decode cX1_init 4 = .ok (.aload_n 0, 1) := by decide +kernel
theorem dX1_init_5 : decode cX1_init 5 = .ok (.aload_n 1, 1) := by decide +kernel
theorem dX1_init_6 : decode cX1_init 6 = .ok (.putfield 11, 3) := by decide +kernel
theorem dX1_init_9 : decode cX1_init 9 = .ok (.aload_n 0, 1) := by decide +kernel
theorem dX1_init_10 : decode cX1_init 10 = .ok (.sipush 576, 3) := by decide +kernel
theorem dX1_init_13 : decode cX1_init 13 = .ok (.newarray .long, 2) := by decide +kernel
theorem dX1_init_15 : decode cX1_init 15 = .ok (.putfield 17, 3) := by decide +kernel
theorem dX1_init_18 : decode cX1_init 18 = .ok (.aload_n 0, 1) := by decide +kernel
theorem dX1_init_19 : decode cX1_init 19 = .ok (.bipush 24, 2) := by decide +kernel
theorem dX1_init_21 : decode cX1_init 21 = .ok (.newarray .long, 2) := by decide +kernel
theorem dX1_init_23 : decode cX1_init 23 = .ok (.putfield 21, 3) := by decide +kernel
theorem dX1_init_26 : decode cX1_init 26 = .ok (.aload_n 0, 1) := by decide +kernel
theorem dX1_init_27 : decode cX1_init 27 = .ok (.sipush 192, 3) := by decide +kernel
theorem dX1_init_30 : decode cX1_init 30 = .ok (.newarray .long, 2) := by decide +kernel
theorem dX1_init_32 : decode cX1_init 32 = .ok (.putfield 24, 3) := by decide +kernel
theorem dX1_init_35 : decode cX1_init 35 = .ok (.aload_n 0, 1) := by decide +kernel
theorem dX1_init_36 : decode cX1_init 36 = .ok (.sipush 192, 3) := by decide +kernel
theorem dX1_init_39 : decode cX1_init 39 = .ok (.newarray .long, 2) := by decide +kernel
theorem dX1_init_41 : decode cX1_init 41 = .ok (.putfield 27, 3) := by decide +kernel
theorem dX1_init_44 : decode cX1_init 44 = .ok (.aload_n 0, 1) := by decide +kernel
theorem dX1_init_45 : decode cX1_init 45 = .ok (.ldc2_w 30, 3) := by decide +kernel
theorem dX1_init_48 : decode cX1_init 48 = .ok (.putfield 32, 3) := by decide +kernel
theorem dX1_init_51 : decode cX1_init 51 = .ok (.aload_n 0, 1) := by decide +kernel
theorem dX1_init_52 : decode cX1_init 52 = .ok (.lconst 0, 1) := by decide +kernel
theorem dX1_init_53 : decode cX1_init 53 = .ok (.putfield 36, 3) := by decide +kernel
theorem dX1_init_56 : decode cX1_init 56 = .ok (.return_, 1) := by decide +kernel
set_option maxRecDepth 20000 in
theorem ggX1_run_X1_priceLinesAndTurns : GoodIn wsX1_run wsX1_priceLinesAndTurns := goodIn_r _ [13, 2, 3, 14, 15, 16, 17, 18, 19, 20, 21, 22, 23, 24, 25, 26, 27, 28, 29, 30, 31, 32, 33, 34, 35, 36, 37, 38, 39, 40, 41, 42, 43, 44, 45, 46, 47, 48, 49, 50, 51, 87, 88, 89, 90, 91, 92, 93, 94, 95, 96, 97, 98, 99, 100, 101] rfl (by decide +kernel)
set_option maxRecDepth 20000 in
theorem gX1_run_X1_priceLinesAndTurns : GoodIn wsX1_run (wsV RX1 48 RX1 yX1_priceLinesAndTurns wsX1_priceLinesAndTurns) := goodIn_app (goodIn_of _ (by decide +kernel)) ggX1_run_X1_priceLinesAndTurns
set_option maxRecDepth 20000 in
theorem ggX1_run_X1_fillForAnyCount : GoodIn wsX1_run wsX1_fillForAnyCount := goodIn_r _ [55, 2, 3, 56, 57, 58, 59, 60, 61, 62, 63, 12, 64, 7, 5, 8, 15, 65, 66, 67, 68, 69, 70, 71, 72, 73, 74, 75, 76, 77, 78, 79, 80, 81, 82, 14, 87, 88, 89, 90, 91, 92, 93, 94, 95, 96, 97, 98, 99, 100, 101] rfl (by decide +kernel)
set_option maxRecDepth 20000 in
theorem gX1_run_X1_fillForAnyCount : GoodIn wsX1_run (wsV RX1 51 RX1 yX1_fillForAnyCount wsX1_fillForAnyCount) := goodIn_app (goodIn_of _ (by decide +kernel)) ggX1_run_X1_fillForAnyCount
set_option maxRecDepth 20000 in
theorem ggX1_run_X1_fillForCount : GoodIn wsX1_run wsX1_fillForCount := goodIn_r _ [86, 2, 3, 56, 57, 58, 59, 60, 61, 62, 63, 12, 64, 7, 5, 8, 15, 65, 66, 67, 68, 69, 70, 71, 72, 73, 74, 75, 76, 77, 78, 79, 80, 81, 82, 14, 87, 88, 89, 90, 91, 92, 93, 94, 95, 96, 97, 98, 99, 100, 101] rfl (by decide +kernel)
set_option maxRecDepth 20000 in
theorem gX1_run_X1_fillForCount : GoodIn wsX1_run (wsV RX1 54 RX1 yX1_fillForCount wsX1_fillForCount) := goodIn_app (goodIn_of _ (by decide +kernel)) ggX1_run_X1_fillForCount
theorem dX1_run_0 : decode cX1_run 0 = .ok (.aload_n 0, 1) := by decide +kernel
theorem dX1_run_1 : decode cX1_run 1 = .ok (.lconst 0, 1) := by decide +kernel
theorem dX1_run_2 : decode cX1_run 2 = .ok (.putfield 36, 3) := by decide +kernel
theorem dX1_run_5 : decode cX1_run 5 = .ok (.aload_n 0, 1) := by decide +kernel
theorem dX1_run_6 : decode cX1_run 6 = .ok (.getfield 11, 3) := by decide +kernel
theorem dX1_run_9 : decode cX1_run 9 = .ok (.getfield 39, 3) := by decide +kernel
theorem dX1_run_12 : decode cX1_run 12 = .ok (.ifCond .ne 25, 3) := by decide +kernel
theorem dX1_run_15 : decode cX1_run 15 = .ok (.aload_n 0, 1) := by decide +kernel
theorem dX1_run_16 : decode cX1_run 16 = .ok (.aload_n 0, 1) := by decide +kernel
theorem dX1_run_17 : decode cX1_run 17 = .ok (.getfield 11, 3) := by decide +kernel
theorem dX1_run_20 : decode cX1_run 20 = .ok (.getfield 45, 3) := by decide +kernel
theorem dX1_run_23 : decode cX1_run 23 = .ok (.ifCond .ne 7, 3) := by decide +kernel
theorem dX1_run_26 : decode cX1_run 26 = .ok (.lconst 0, 1) := by decide +kernel
theorem dX1_run_27 : decode cX1_run 27 = .ok (.goto 6, 3) := by decide +kernel
theorem dX1_run_30 : decode cX1_run 30 = .ok (.ldc2_w 30, 3) := by decide +kernel
theorem dX1_run_33 : decode cX1_run 33 = .ok (.putfield 32, 3) := by decide +kernel
theorem dX1_run_36 : decode cX1_run 36 = .ok (.return_, 1) := by decide +kernel
theorem dX1_run_37 : decode cX1_run 37 = .ok (.aload_n 0, 1) := by decide +kernel
theorem dX1_run_38 : decode cX1_run 38 = .ok (.getfield 11, 3) := by decide +kernel
theorem dX1_run_41 : decode cX1_run 41 = .ok (.getfield 45, 3) := by decide +kernel
theorem dX1_run_44 : decode cX1_run 44 = .ok (.aload_n 0, 1) := by decide +kernel
theorem dX1_run_45 : decode cX1_run 45 = .ok (.getfield 11, 3) := by decide +kernel
theorem dX1_run_48 : decode cX1_run 48 = .ok (.getfield 39, 3) := by decide +kernel
theorem dX1_run_51 : decode cX1_run 51 = .ok (.if_icmp .le 11, 3) := by decide +kernel
theorem dX1_run_54 : decode cX1_run 54 = .ok (.aload_n 0, 1) := by decide +kernel
theorem dX1_run_55 : decode cX1_run 55 = .ok (.ldc2_w 30, 3) := by decide +kernel
theorem dX1_run_58 : decode cX1_run 58 = .ok (.putfield 32, 3) := by decide +kernel
theorem dX1_run_61 : decode cX1_run 61 = .ok (.return_, 1) := by decide +kernel
theorem dX1_run_62 : decode cX1_run 62 = .ok (.aload_n 0, 1) := by decide +kernel
theorem dX1_run_63 : decode cX1_run 63 = .ok (.invokevirtual 48, 3) := by decide +kernel
theorem dX1_run_66 : decode cX1_run 66 = .ok (.aload_n 0, 1) := by decide +kernel
theorem dX1_run_67 : decode cX1_run 67 = .ok (.getfield 11, 3) := by decide +kernel
theorem dX1_run_70 : decode cX1_run 70 = .ok (.getfield 45, 3) := by decide +kernel
theorem dX1_run_73 : decode cX1_run 73 = .ok (.ifCond .ne 10, 3) := by decide +kernel
theorem dX1_run_76 : decode cX1_run 76 = .ok (.aload_n 0, 1) := by decide +kernel
theorem dX1_run_77 : decode cX1_run 77 = .ok (.invokevirtual 51, 3) := by decide +kernel
theorem dX1_run_80 : decode cX1_run 80 = .ok (.goto 14, 3) := by decide +kernel
theorem dX1_run_83 : decode cX1_run 83 = .ok (.aload_n 0, 1) := by decide +kernel
theorem dX1_run_84 : decode cX1_run 84 = .ok (.aload_n 0, 1) := by decide +kernel
theorem dX1_run_85 : decode cX1_run 85 = .ok (.getfield 11, 3) := by decide +kernel
theorem dX1_run_88 : decode cX1_run 88 = .ok (.getfield 45, 3) := by decide +kernel
theorem dX1_run_91 : decode cX1_run 91 = .ok (.invokevirtual 54, 3) := by decide +kernel
theorem dX1_run_94 : decode cX1_run 94 = .ok (.aload_n 0, 1) := by decide +kernel
theorem dX1_run_95 : decode cX1_run 95 = .ok (.aload_n 0, 1) := by decide +kernel
theorem dX1_run_96 : decode cX1_run 96 = .ok (.getfield 24, 3) := by decide +kernel
theorem dX1_run_99 : decode cX1_run 99 = .ok (.iconst 0, 1) := by decide +kernel
theorem dX1_run_100 : decode cX1_run 100 = .ok (.laload, 1) := by decide +kernel
theorem dX1_run_101 : decode cX1_run 101 = .ok (.putfield 32, 3) := by decide +kernel
theorem dX1_run_104 : decode cX1_run 104 = .ok (.aload_n 0, 1) := by decide +kernel
theorem dX1_run_105 : decode cX1_run 105 = .ok (.aload_n 0, 1) := by decide +kernel
theorem dX1_run_106 : decode cX1_run 106 = .ok (.getfield 27, 3) := by decide +kernel
theorem dX1_run_109 : decode cX1_run 109 = .ok (.iconst 0, 1) := by decide +kernel
theorem dX1_run_110 : decode cX1_run 110 = .ok (.laload, 1) := by decide +kernel
theorem dX1_run_111 : decode cX1_run 111 = .ok (.putfield 36, 3) := by decide +kernel
theorem dX1_run_114 : decode cX1_run 114 = .ok (.return_, 1) := by decide +kernel
theorem dX1_hasFound_0 : decode cX1_hasFound 0 = .ok (.aload_n 0, 1) := by decide +kernel
theorem dX1_hasFound_1 : decode cX1_hasFound 1 = .ok (.getfield 32, 3) := by decide +kernel
theorem dX1_hasFound_4 : decode cX1_hasFound 4 = .ok (.ldc2_w 30, 3) := by decide +kernel
theorem dX1_hasFound_7 : decode cX1_hasFound 7 = .ok (.lcmp, 1) := by decide +kernel
theorem dX1_hasFound_8 : decode cX1_hasFound 8 = .ok (.ifCond .eq 7, 3) := by decide +kernel
theorem dX1_hasFound_11 : decode cX1_hasFound 11 = .ok (.iconst 1, 1) := by decide +kernel
theorem dX1_hasFound_12 : decode cX1_hasFound 12 = .ok (.goto 4, 3) := by decide +kernel
theorem dX1_hasFound_15 : decode cX1_hasFound 15 = .ok (.iconst 0, 1) := by decide +kernel
theorem dX1_hasFound_16 : decode cX1_hasFound 16 = .ok (.ireturn, 1) := by decide +kernel
set_option maxRecDepth 20000 in
theorem ggX1_foundTotal_X1_hasFound : GoodIn wsX1_foundTotal wsX1_hasFound := goodIn_r _ [8, 1, 9, 10, 11, 12, 13, 14, 15, 16] rfl (by decide +kernel)
set_option maxRecDepth 20000 in
theorem gX1_foundTotal_X1_hasFound : GoodIn wsX1_foundTotal (wsV RX1 58 RX1 yX1_hasFound wsX1_hasFound) := goodIn_app (goodIn_of _ (by decide +kernel)) ggX1_foundTotal_X1_hasFound
theorem dX1_foundTotal_0 : decode cX1_foundTotal 0 = .ok (.aload_n 0, 1) := by decide +kernel
theorem dX1_foundTotal_1 : decode cX1_foundTotal 1 = .ok (.invokevirtual 58, 3) := by decide +kernel
theorem dX1_foundTotal_4 : decode cX1_foundTotal 4 = .ok (.ifCond .eq 14, 3) := by decide +kernel
theorem dX1_foundTotal_7 : decode cX1_foundTotal 7 = .ok (.aload_n 0, 1) := by decide +kernel
theorem dX1_foundTotal_8 : decode cX1_foundTotal 8 = .ok (.getfield 32, 3) := by decide +kernel
theorem dX1_foundTotal_11 : decode cX1_foundTotal 11 = .ok (.ldc2_w 62, 3) := by decide +kernel
theorem dX1_foundTotal_14 : decode cX1_foundTotal 14 = .ok (.ldiv, 1) := by decide +kernel
theorem dX1_foundTotal_15 : decode cX1_foundTotal 15 = .ok (.goto 6, 3) := by decide +kernel
theorem dX1_foundTotal_18 : decode cX1_foundTotal 18 = .ok (.ldc2_w 64, 3) := by decide +kernel
theorem dX1_foundTotal_21 : decode cX1_foundTotal 21 = .ok (.lreturn, 1) := by decide +kernel
set_option maxRecDepth 20000 in
theorem ggX1_lineEndsAt_X1_lineEnd : GoodIn wsX1_lineEndsAt wsX1_lineEnd := goodIn_r _ [5] rfl (by decide +kernel)
set_option maxRecDepth 20000 in
theorem gX1_lineEndsAt_X1_lineEnd : GoodIn wsX1_lineEndsAt (va_wsS RX1 66 yX1_lineEnd wsX1_lineEnd) := goodIn_app (goodIn_of _ (by decide +kernel)) ggX1_lineEndsAt_X1_lineEnd
theorem dX1_lineEndsAt_0 : decode cX1_lineEndsAt 0 = .ok (.aload_n 0, 1) := by decide +kernel
theorem dX1_lineEndsAt_1 : decode cX1_lineEndsAt 1 = .ok (.getfield 36, 3) := by decide +kernel
theorem dX1_lineEndsAt_4 : decode cX1_lineEndsAt 4 = .ok (.iload_n 1, 1) := by decide +kernel
theorem dX1_lineEndsAt_5 : decode cX1_lineEndsAt 5 = .ok (.invokestatic 66, 3) := by decide +kernel
theorem dX1_lineEndsAt_8 : decode cX1_lineEndsAt 8 = .ok (.land, 1) := by decide +kernel
theorem dX1_lineEndsAt_9 : decode cX1_lineEndsAt 9 = .ok (.lconst 0, 1) := by decide +kernel
theorem dX1_lineEndsAt_10 : decode cX1_lineEndsAt 10 = .ok (.lcmp, 1) := by decide +kernel
theorem dX1_lineEndsAt_11 : decode cX1_lineEndsAt 11 = .ok (.ifCond .eq 7, 3) := by decide +kernel
theorem dX1_lineEndsAt_14 : decode cX1_lineEndsAt 14 = .ok (.iconst 1, 1) := by decide +kernel
theorem dX1_lineEndsAt_15 : decode cX1_lineEndsAt 15 = .ok (.goto 4, 3) := by decide +kernel
theorem dX1_lineEndsAt_18 : decode cX1_lineEndsAt 18 = .ok (.iconst 0, 1) := by decide +kernel
theorem dX1_lineEndsAt_19 : decode cX1_lineEndsAt 19 = .ok (.ireturn, 1) := by decide +kernel
set_option maxRecDepth 20000 in
theorem ggX1_pageEndsAt_X1_pageEnd : GoodIn wsX1_pageEndsAt wsX1_pageEnd := goodIn_r _ [5] rfl (by decide +kernel)
set_option maxRecDepth 20000 in
theorem gX1_pageEndsAt_X1_pageEnd : GoodIn wsX1_pageEndsAt (va_wsS RX1 70 yX1_pageEnd wsX1_pageEnd) := goodIn_app (goodIn_of _ (by decide +kernel)) ggX1_pageEndsAt_X1_pageEnd
theorem dX1_pageEndsAt_0 : decode cX1_pageEndsAt 0 = .ok (.aload_n 0, 1) := by decide +kernel
theorem dX1_pageEndsAt_1 : decode cX1_pageEndsAt 1 = .ok (.getfield 36, 3) := by decide +kernel
theorem dX1_pageEndsAt_4 : decode cX1_pageEndsAt 4 = .ok (.iload_n 1, 1) := by decide +kernel
theorem dX1_pageEndsAt_5 : decode cX1_pageEndsAt 5 = .ok (.invokestatic 70, 3) := by decide +kernel
theorem dX1_pageEndsAt_8 : decode cX1_pageEndsAt 8 = .ok (.land, 1) := by decide +kernel
theorem dX1_pageEndsAt_9 : decode cX1_pageEndsAt 9 = .ok (.lconst 0, 1) := by decide +kernel
theorem dX1_pageEndsAt_10 : decode cX1_pageEndsAt 10 = .ok (.lcmp, 1) := by decide +kernel
theorem dX1_pageEndsAt_11 : decode cX1_pageEndsAt 11 = .ok (.ifCond .eq 7, 3) := by decide +kernel
theorem dX1_pageEndsAt_14 : decode cX1_pageEndsAt 14 = .ok (.iconst 1, 1) := by decide +kernel
theorem dX1_pageEndsAt_15 : decode cX1_pageEndsAt 15 = .ok (.goto 4, 3) := by decide +kernel
theorem dX1_pageEndsAt_18 : decode cX1_pageEndsAt 18 = .ok (.iconst 0, 1) := by decide +kernel
theorem dX1_pageEndsAt_19 : decode cX1_pageEndsAt 19 = .ok (.ireturn, 1) := by decide +kernel
set_option maxRecDepth 20000 in
theorem ggX1_priceLinesAndTurns_X0_turnPrice : GoodIn wsX1_priceLinesAndTurns wsX0_turnPrice := goodIn_r _ [9, 10, 11, 12, 13, 8, 14, 15, 48, 49, 50, 51, 52, 53, 54, 55] rfl (by decide +kernel)
set_option maxRecDepth 20000 in
theorem gX1_priceLinesAndTurns_X0_turnPrice : GoodIn wsX1_priceLinesAndTurns (wsV RX1 73 RX0 yX0_turnPrice wsX0_turnPrice) := goodIn_app (goodIn_of _ (by decide +kernel)) ggX1_priceLinesAndTurns_X0_turnPrice
set_option maxRecDepth 20000 in
theorem ggX1_priceLinesAndTurns_X0_linePrice : GoodIn wsX1_priceLinesAndTurns wsX0_linePrice := goodIn_r _ [19, 20, 10, 21, 22, 23, 24, 8, 25, 15, 11, 12, 13, 14, 26, 27, 28, 29, 30, 31, 32, 33, 34, 35, 36, 37, 38, 39, 40, 48, 49, 50, 51, 52, 53, 54, 55] rfl (by decide +kernel)
set_option maxRecDepth 20000 in
theorem gX1_priceLinesAndTurns_X0_linePrice : GoodIn wsX1_priceLinesAndTurns (wsV RX1 77 RX0 yX0_linePrice wsX0_linePrice) := goodIn_app (goodIn_of _ (by decide +kernel)) ggX1_priceLinesAndTurns_X0_linePrice
theorem dX1_priceLinesAndTurns_0 : decode cX1_priceLinesAndTurns 0 = .ok (.iconst 0, 1) := by decide +kernel
theorem dX1_priceLinesAndTurns_1 : decode cX1_priceLinesAndTurns 1 = .ok (.istore_n 1, 1) := by decide +kernel
theorem dX1_priceLinesAndTurns_2 : decode cX1_priceLinesAndTurns 2 = .ok (.iload_n 1, 1) := by decide +kernel
theorem dX1_priceLinesAndTurns_3 : decode cX1_priceLinesAndTurns 3 = .ok (.aload_n 0, 1) := by decide +kernel
theorem dX1_priceLinesAndTurns_4 : decode cX1_priceLinesAndTurns 4 = .ok (.getfield 11, 3) := by decide +kernel
theorem dX1_priceLinesAndTurns_7 : decode cX1_priceLinesAndTurns 7 = .ok (.getfield 39, 3) := by decide +kernel
theorem dX1_priceLinesAndTurns_10 : decode cX1_priceLinesAndTurns 10 = .ok (.if_icmp .ge 63, 3) := by decide +kernel
theorem dX1_priceLinesAndTurns_13 : decode cX1_priceLinesAndTurns 13 = .ok (.aload_n 0, 1) := by decide +kernel
theorem dX1_priceLinesAndTurns_14 : decode cX1_priceLinesAndTurns 14 = .ok (.getfield 21, 3) := by decide +kernel
theorem dX1_priceLinesAndTurns_17 : decode cX1_priceLinesAndTurns 17 = .ok (.iload_n 1, 1) := by decide +kernel
theorem dX1_priceLinesAndTurns_18 : decode cX1_priceLinesAndTurns 18 = .ok (.aload_n 0, 1) := by decide +kernel
theorem dX1_priceLinesAndTurns_19 : decode cX1_priceLinesAndTurns 19 = .ok (.getfield 11, 3) := by decide +kernel
theorem dX1_priceLinesAndTurns_22 : decode cX1_priceLinesAndTurns 22 = .ok (.iload_n 1, 1) := by decide +kernel
theorem dX1_priceLinesAndTurns_23 : decode cX1_priceLinesAndTurns 23 = .ok (.invokevirtual 73, 3) := by decide +kernel
theorem dX1_priceLinesAndTurns_26 : decode cX1_priceLinesAndTurns 26 = .ok (.i2l, 1) := by decide +kernel
theorem dX1_priceLinesAndTurns_27 : decode cX1_priceLinesAndTurns 27 = .ok (.lastore, 1) := by decide +kernel
theorem dX1_priceLinesAndTurns_28 : decode cX1_priceLinesAndTurns 28 = .ok (.iload_n 1, 1) := by decide +kernel
theorem dX1_priceLinesAndTurns_29 : decode cX1_priceLinesAndTurns 29 = .ok (.istore_n 2, 1) := by decide +kernel
theorem dX1_priceLinesAndTurns_30 : decode cX1_priceLinesAndTurns 30 = .ok (.iload_n 2, 1) := by decide +kernel
theorem dX1_priceLinesAndTurns_31 : decode cX1_priceLinesAndTurns 31 = .ok (.aload_n 0, 1) := by decide +kernel
theorem dX1_priceLinesAndTurns_32 : decode cX1_priceLinesAndTurns 32 = .ok (.getfield 11, 3) := by decide +kernel
theorem dX1_priceLinesAndTurns_35 : decode cX1_priceLinesAndTurns 35 = .ok (.getfield 39, 3) := by decide +kernel
theorem dX1_priceLinesAndTurns_38 : decode cX1_priceLinesAndTurns 38 = .ok (.if_icmp .ge 29, 3) := by decide +kernel
theorem dX1_priceLinesAndTurns_41 : decode cX1_priceLinesAndTurns 41 = .ok (.aload_n 0, 1) := by decide +kernel
theorem dX1_priceLinesAndTurns_42 : decode cX1_priceLinesAndTurns 42 = .ok (.getfield 17, 3) := by decide +kernel
theorem dX1_priceLinesAndTurns_45 : decode cX1_priceLinesAndTurns 45 = .ok (.iload_n 1, 1) := by decide +kernel
theorem dX1_priceLinesAndTurns_46 : decode cX1_priceLinesAndTurns 46 = .ok (.bipush 24, 2) := by decide +kernel
theorem dX1_priceLinesAndTurns_48 : decode cX1_priceLinesAndTurns 48 = .ok (.imul, 1) := by decide +kernel
theorem dX1_priceLinesAndTurns_49 : decode cX1_priceLinesAndTurns 49 = .ok (.iload_n 2, 1) := by decide +kernel
theorem dX1_priceLinesAndTurns_50 : decode cX1_priceLinesAndTurns 50 = .ok (.iadd, 1) := by decide +kernel
theorem dX1_priceLinesAndTurns_51 : decode cX1_priceLinesAndTurns 51 = .ok (.aload_n 0, 1) := by decide +kernel
theorem dX1_priceLinesAndTurns_52 : decode cX1_priceLinesAndTurns 52 = .ok (.getfield 11, 3) := by decide +kernel
theorem dX1_priceLinesAndTurns_55 : decode cX1_priceLinesAndTurns 55 = .ok (.iload_n 1, 1) := by decide +kernel
theorem dX1_priceLinesAndTurns_56 : decode cX1_priceLinesAndTurns 56 = .ok (.iload_n 2, 1) := by decide +kernel
theorem dX1_priceLinesAndTurns_57 : decode cX1_priceLinesAndTurns 57 = .ok (.invokevirtual 77, 3) := by decide +kernel
theorem dX1_priceLinesAndTurns_60 : decode cX1_priceLinesAndTurns 60 = .ok (.lastore, 1) := by decide +kernel
theorem dX1_priceLinesAndTurns_61 : decode cX1_priceLinesAndTurns 61 = .ok (.iinc 2 1, 3) := by decide +kernel
theorem dX1_priceLinesAndTurns_64 : decode cX1_priceLinesAndTurns 64 = .ok (.goto (-34), 3) := by decide +kernel
theorem dX1_priceLinesAndTurns_67 : decode cX1_priceLinesAndTurns 67 = .ok (.iinc 1 1, 3) := by decide +kernel
theorem dX1_priceLinesAndTurns_70 : decode cX1_priceLinesAndTurns 70 = .ok (.goto (-68), 3) := by decide +kernel
theorem dX1_priceLinesAndTurns_73 : decode cX1_priceLinesAndTurns 73 = .ok (.return_, 1) := by decide +kernel
set_option maxRecDepth 20000 in
theorem ggX1_fillForAnyCount_X1_fillCell : GoodIn wsX1_fillForAnyCount wsX1_fillCell := goodIn_r _ [12, 13, 14, 15, 16, 17, 18, 1, 2, 19, 20, 21, 22, 11, 23, 24, 25, 26, 27, 28, 29, 30, 31, 32, 33, 34, 35, 3, 36, 37, 38, 39, 40, 41, 42, 43, 44, 45, 46, 47, 48, 49, 50] rfl (by decide +kernel)
set_option maxRecDepth 20000 in
theorem gX1_fillForAnyCount_X1_fillCell : GoodIn wsX1_fillForAnyCount (wsV RX1 90 RX1 yX1_fillCell wsX1_fillCell) := goodIn_app (goodIn_of _ (by decide +kernel)) ggX1_fillForAnyCount_X1_fillCell
theorem dX1_fillForAnyCount_0 : decode cX1_fillForAnyCount 0 = .ok (.aload_n 0, 1) := by decide +kernel
theorem dX1_fillForAnyCount_1 : decode cX1_fillForAnyCount 1 = .ok (.getfield 11, 3) := by decide +kernel
theorem dX1_fillForAnyCount_4 : decode cX1_fillForAnyCount 4 = .ok (.getfield 39, 3) := by decide +kernel
theorem dX1_fillForAnyCount_7 : decode cX1_fillForAnyCount 7 = .ok (.iconst 1, 1) := by decide +kernel
theorem dX1_fillForAnyCount_8 : decode cX1_fillForAnyCount 8 = .ok (.isub, 1) := by decide +kernel
theorem dX1_fillForAnyCount_9 : decode cX1_fillForAnyCount 9 = .ok (.istore_n 1, 1) := by decide +kernel
theorem dX1_fillForAnyCount_10 : decode cX1_fillForAnyCount 10 = .ok (.iload_n 1, 1) := by decide +kernel
theorem dX1_fillForAnyCount_11 : decode cX1_fillForAnyCount 11 = .ok (.ifCond .lt 52, 3) := by decide +kernel
theorem dX1_fillForAnyCount_14 : decode cX1_fillForAnyCount 14 = .ok (.aload_n 0, 1) := by decide +kernel
theorem dX1_fillForAnyCount_15 : decode cX1_fillForAnyCount 15 = .ok (.getfield 11, 3) := by decide +kernel
theorem dX1_fillForAnyCount_18 : decode cX1_fillForAnyCount 18 = .ok (.getfield 81, 3) := by decide +kernel
theorem dX1_fillForAnyCount_21 : decode cX1_fillForAnyCount 21 = .ok (.iconst 1, 1) := by decide +kernel
theorem dX1_fillForAnyCount_22 : decode cX1_fillForAnyCount 22 = .ok (.isub, 1) := by decide +kernel
theorem dX1_fillForAnyCount_23 : decode cX1_fillForAnyCount 23 = .ok (.iload_n 1, 1) := by decide +kernel
theorem dX1_fillForAnyCount_24 : decode cX1_fillForAnyCount 24 = .ok (.invokestatic 84, 3) := by decide +kernel
theorem dX1_fillForAnyCount_27 : decode cX1_fillForAnyCount 27 = .ok (.istore_n 2, 1) := by decide +kernel
theorem dX1_fillForAnyCount_28 : decode cX1_fillForAnyCount 28 = .ok (.iconst 0, 1) := by decide +kernel
theorem dX1_fillForAnyCount_29 : decode cX1_fillForAnyCount 29 = .ok (.istore_n 3, 1) := by decide +kernel
theorem dX1_fillForAnyCount_30 : decode cX1_fillForAnyCount 30 = .ok (.iload_n 3, 1) := by decide +kernel
theorem dX1_fillForAnyCount_31 : decode cX1_fillForAnyCount 31 = .ok (.iload_n 2, 1) := by decide +kernel
theorem dX1_fillForAnyCount_32 : decode cX1_fillForAnyCount 32 = .ok (.if_icmp .gt 25, 3) := by decide +kernel
theorem dX1_fillForAnyCount_35 : decode cX1_fillForAnyCount 35 = .ok (.aload_n 0, 1) := by decide +kernel
theorem dX1_fillForAnyCount_36 : decode cX1_fillForAnyCount 36 = .ok (.iload_n 1, 1) := by decide +kernel
theorem dX1_fillForAnyCount_37 : decode cX1_fillForAnyCount 37 = .ok (.iload_n 3, 1) := by decide +kernel
theorem dX1_fillForAnyCount_38 : decode cX1_fillForAnyCount 38 = .ok (.iload_n 1, 1) := by decide +kernel
theorem dX1_fillForAnyCount_39 : decode cX1_fillForAnyCount 39 = .ok (.aload_n 0, 1) := by decide +kernel
theorem dX1_fillForAnyCount_40 : decode cX1_fillForAnyCount 40 = .ok (.getfield 11, 3) := by decide +kernel
theorem dX1_fillForAnyCount_43 : decode cX1_fillForAnyCount 43 = .ok (.getfield 39, 3) := by decide +kernel
theorem dX1_fillForAnyCount_46 : decode cX1_fillForAnyCount 46 = .ok (.iconst 1, 1) := by decide +kernel
theorem dX1_fillForAnyCount_47 : decode cX1_fillForAnyCount 47 = .ok (.isub, 1) := by decide +kernel
theorem dX1_fillForAnyCount_48 : decode cX1_fillForAnyCount 48 = .ok (.invokevirtual 90, 3) := by decide +kernel
theorem dX1_fillForAnyCount_51 : decode cX1_fillForAnyCount 51 = .ok (.iinc 3 1, 3) := by decide +kernel
theorem dX1_fillForAnyCount_54 : decode cX1_fillForAnyCount 54 = .ok (.goto (-24), 3) := by decide +kernel
theorem dX1_fillForAnyCount_57 : decode cX1_fillForAnyCount 57 = .ok (.iinc 1 (-1), 3) := by decide +kernel
theorem dX1_fillForAnyCount_60 : decode cX1_fillForAnyCount 60 = .ok (.goto (-50), 3) := by decide +kernel
theorem dX1_fillForAnyCount_63 : decode cX1_fillForAnyCount 63 = .ok (.return_, 1) := by decide +kernel
set_option maxRecDepth 20000 in
theorem ggX1_fillForCount_X1_fillCell : GoodIn wsX1_fillForCount wsX1_fillCell := goodIn_r _ [12, 13, 14, 15, 16, 17, 18, 1, 2, 19, 20, 21, 22, 11, 23, 24, 25, 26, 27, 28, 29, 30, 31, 32, 33, 34, 35, 3, 36, 37, 38, 39, 40, 41, 42, 43, 44, 45, 46, 47, 48, 49, 50] rfl (by decide +kernel)
set_option maxRecDepth 20000 in
theorem gX1_fillForCount_X1_fillCell : GoodIn wsX1_fillForCount (wsV RX1 90 RX1 yX1_fillCell wsX1_fillCell) := goodIn_app (goodIn_of _ (by decide +kernel)) ggX1_fillForCount_X1_fillCell
theorem dX1_fillForCount_0 : decode cX1_fillForCount 0 = .ok (.iconst 1, 1) := by decide +kernel
theorem dX1_fillForCount_1 : decode cX1_fillForCount 1 = .ok (.istore_n 2, 1) := by decide +kernel
theorem dX1_fillForCount_2 : decode cX1_fillForCount 2 = .ok (.iload_n 2, 1) := by decide +kernel
theorem dX1_fillForCount_3 : decode cX1_fillForCount 3 = .ok (.iload_n 1, 1) := by decide +kernel
theorem dX1_fillForCount_4 : decode cX1_fillForCount 4 = .ok (.if_icmp .gt 109, 3) := by decide +kernel
theorem dX1_fillForCount_7 : decode cX1_fillForCount 7 = .ok (.iload_n 1, 1) := by decide +kernel
theorem dX1_fillForCount_8 : decode cX1_fillForCount 8 = .ok (.iload_n 2, 1) := by decide +kernel
theorem dX1_fillForCount_9 : decode cX1_fillForCount 9 = .ok (.isub, 1) := by decide +kernel
theorem dX1_fillForCount_10 : decode cX1_fillForCount 10 = .ok (.istore_n 3, 1) := by decide +kernel
theorem dX1_fillForCount_11 : decode cX1_fillForCount 11 = .ok (.aload_n 0, 1) := by decide +kernel
theorem dX1_fillForCount_12 : decode cX1_fillForCount 12 = .ok (.getfield 11, 3) := by decide +kernel
theorem dX1_fillForCount_15 : decode cX1_fillForCount 15 = .ok (.getfield 39, 3) := by decide +kernel
theorem dX1_fillForCount_18 : decode cX1_fillForCount 18 = .ok (.iload_n 2, 1) := by decide +kernel
theorem dX1_fillForCount_19 : decode cX1_fillForCount 19 = .ok (.isub, 1) := by decide +kernel
theorem dX1_fillForCount_20 : decode cX1_fillForCount 20 = .ok (.istore 4, 2) := by decide +kernel
theorem dX1_fillForCount_22 : decode cX1_fillForCount 22 = .ok (.iload_n 3, 1) := by decide +kernel
theorem dX1_fillForCount_23 : decode cX1_fillForCount 23 = .ok (.ifCond .ne 7, 3) := by decide +kernel
theorem dX1_fillForCount_26 : decode cX1_fillForCount 26 = .ok (.iconst 0, 1) := by decide +kernel
theorem dX1_fillForCount_27 : decode cX1_fillForCount 27 = .ok (.goto 5, 3) := by decide +kernel
theorem dX1_fillForCount_30 : decode cX1_fillForCount 30 = .ok (.iload 4, 2) := by decide +kernel
theorem dX1_fillForCount_32 : decode cX1_fillForCount 32 = .ok (.istore 5, 2) := by decide +kernel
theorem dX1_fillForCount_34 : decode cX1_fillForCount 34 = .ok (.aload_n 0, 1) := by decide +kernel
theorem dX1_fillForCount_35 : decode cX1_fillForCount 35 = .ok (.getfield 11, 3) := by decide +kernel
theorem dX1_fillForCount_38 : decode cX1_fillForCount 38 = .ok (.getfield 81, 3) := by decide +kernel
theorem dX1_fillForCount_41 : decode cX1_fillForCount 41 = .ok (.iconst 1, 1) := by decide +kernel
theorem dX1_fillForCount_42 : decode cX1_fillForCount 42 = .ok (.isub, 1) := by decide +kernel
theorem dX1_fillForCount_43 : decode cX1_fillForCount 43 = .ok (.iload_n 3, 1) := by decide +kernel
theorem dX1_fillForCount_44 : decode cX1_fillForCount 44 = .ok (.invokestatic 84, 3) := by decide +kernel
theorem dX1_fillForCount_47 : decode cX1_fillForCount 47 = .ok (.istore 6, 2) := by decide +kernel
theorem dX1_fillForCount_49 : decode cX1_fillForCount 49 = .ok (.iload_n 3, 1) := by decide +kernel
theorem dX1_fillForCount_50 : decode cX1_fillForCount 50 = .ok (.istore 7, 2) := by decide +kernel
theorem dX1_fillForCount_52 : decode cX1_fillForCount 52 = .ok (.iload 7, 2) := by decide +kernel
theorem dX1_fillForCount_54 : decode cX1_fillForCount 54 = .ok (.iload 5, 2) := by decide +kernel
theorem dX1_fillForCount_56 : decode cX1_fillForCount 56 = .ok (.if_icmp .gt 51, 3) := by decide +kernel
theorem dX1_fillForCount_59 : decode cX1_fillForCount 59 = .ok (.iload_n 2, 1) := by decide +kernel
theorem dX1_fillForCount_60 : decode cX1_fillForCount 60 = .ok (.iconst 1, 1) := by decide +kernel
theorem dX1_fillForCount_61 : decode cX1_fillForCount 61 = .ok (.if_icmp .ne 8, 3) := by decide +kernel
theorem dX1_fillForCount_64 : decode cX1_fillForCount 64 = .ok (.iload 4, 2) := by decide +kernel
theorem dX1_fillForCount_66 : decode cX1_fillForCount 66 = .ok (.goto 5, 3) := by decide +kernel
theorem dX1_fillForCount_69 : decode cX1_fillForCount 69 = .ok (.iload 7, 2) := by decide +kernel
theorem dX1_fillForCount_71 : decode cX1_fillForCount 71 = .ok (.istore 8, 2) := by decide +kernel
theorem dX1_fillForCount_73 : decode cX1_fillForCount 73 = .ok (.iconst 0, 1) := by decide +kernel
theorem dX1_fillForCount_74 : decode cX1_fillForCount 74 = .ok (.istore 9, 2) := by decide +kernel
theorem dX1_fillForCount_76 : decode cX1_fillForCount 76 = .ok (.iload 9, 2) := by decide +kernel
theorem dX1_fillForCount_78 : decode cX1_fillForCount 78 = .ok (.iload 6, 2) := by decide +kernel
theorem dX1_fillForCount_80 : decode cX1_fillForCount 80 = .ok (.if_icmp .gt 21, 3) := by decide +kernel
theorem dX1_fillForCount_83 : decode cX1_fillForCount 83 = .ok (.aload_n 0, 1) := by decide +kernel
theorem dX1_fillForCount_84 : decode cX1_fillForCount 84 = .ok (.iload 7, 2) := by decide +kernel
theorem dX1_fillForCount_86 : decode cX1_fillForCount 86 = .ok (.iload 9, 2) := by decide +kernel
theorem dX1_fillForCount_88 : decode cX1_fillForCount 88 = .ok (.iload 8, 2) := by decide +kernel
theorem dX1_fillForCount_90 : decode cX1_fillForCount 90 = .ok (.iload 4, 2) := by decide +kernel
theorem dX1_fillForCount_92 : decode cX1_fillForCount 92 = .ok (.invokevirtual 90, 3) := by decide +kernel
theorem dX1_fillForCount_95 : decode cX1_fillForCount 95 = .ok (.iinc 9 1, 3) := by decide +kernel
theorem dX1_fillForCount_98 : decode cX1_fillForCount 98 = .ok (.goto (-22), 3) := by decide +kernel
theorem dX1_fillForCount_101 : decode cX1_fillForCount 101 = .ok (.iinc 7 1, 3) := by decide +kernel
theorem dX1_fillForCount_104 : decode cX1_fillForCount 104 = .ok (.goto (-52), 3) := by decide +kernel
theorem dX1_fillForCount_107 : decode cX1_fillForCount 107 = .ok (.iinc 2 1, 3) := by decide +kernel
theorem dX1_fillForCount_110 : decode cX1_fillForCount 110 = .ok (.goto (-108), 3) := by decide +kernel
theorem dX1_fillForCount_113 : decode cX1_fillForCount 113 = .ok (.return_, 1) := by decide +kernel
set_option maxRecDepth 20000 in
theorem ggX1_fillCell_X1_lineEnd : GoodIn wsX1_fillCell wsX1_lineEnd := goodIn_r _ [14] rfl (by decide +kernel)
set_option maxRecDepth 20000 in
theorem gX1_fillCell_X1_lineEnd : GoodIn wsX1_fillCell (va_wsS RX1 66 yX1_lineEnd wsX1_lineEnd) := goodIn_app (goodIn_of _ (by decide +kernel)) ggX1_fillCell_X1_lineEnd
set_option maxRecDepth 20000 in
theorem ggX1_fillCell_X1_pageEnd : GoodIn wsX1_fillCell wsX1_pageEnd := goodIn_r _ [17] rfl (by decide +kernel)
set_option maxRecDepth 20000 in
theorem gX1_fillCell_X1_pageEnd : GoodIn wsX1_fillCell (va_wsS RX1 70 yX1_pageEnd wsX1_pageEnd) := goodIn_app (goodIn_of _ (by decide +kernel)) ggX1_fillCell_X1_pageEnd
set_option maxRecDepth 20000 in
theorem ggX1_fillCell_X1_offer : GoodIn wsX1_fillCell wsX1_offer := goodIn_r _ [21, 1, 3, 28, 29, 30, 31, 32, 33, 34] rfl (by decide +kernel)
set_option maxRecDepth 20000 in
theorem gX1_fillCell_X1_offer : GoodIn wsX1_fillCell (wsV RX1 100 RX1 yX1_offer wsX1_offer) := goodIn_app (goodIn_of _ (by decide +kernel)) ggX1_fillCell_X1_offer
set_option maxRecDepth 20000 in
theorem ggX1_fillCell_X1_offerGoingOn : GoodIn wsX1_fillCell wsX1_offerGoingOn := goodIn_r _ [25, 1, 2, 26, 6, 10, 3, 7, 27, 11, 12, 13, 14, 15, 16, 17, 18, 19, 20, 21, 28, 29, 30, 31, 32, 33, 34, 35, 36, 37, 38, 39, 40, 41, 42] rfl (by decide +kernel)
set_option maxRecDepth 20000 in
theorem gX1_fillCell_X1_offerGoingOn : GoodIn wsX1_fillCell (wsV RX1 104 RX1 yX1_offerGoingOn wsX1_offerGoingOn) := goodIn_app (goodIn_of _ (by decide +kernel)) ggX1_fillCell_X1_offerGoingOn
theorem dX1_fillCell_0 : decode cX1_fillCell 0 = .ok (.iload_n 1, 1) := by decide +kernel
theorem dX1_fillCell_1 : decode cX1_fillCell 1 = .ok (.bipush 8, 2) := by decide +kernel
theorem dX1_fillCell_3 : decode cX1_fillCell 3 = .ok (.imul, 1) := by decide +kernel
theorem dX1_fillCell_4 : decode cX1_fillCell 4 = .ok (.iload_n 2, 1) := by decide +kernel
theorem dX1_fillCell_5 : decode cX1_fillCell 5 = .ok (.iadd, 1) := by decide +kernel
theorem dX1_fillCell_6 : decode cX1_fillCell 6 = .ok (.istore 5, 2) := by decide +kernel
theorem dX1_fillCell_8 : decode cX1_fillCell 8 = .ok (.aload_n 0, 1) := by decide +kernel
theorem dX1_fillCell_9 : decode cX1_fillCell 9 = .ok (.getfield 24, 3) := by decide +kernel
theorem dX1_fillCell_12 : decode cX1_fillCell 12 = .ok (.iload 5, 2) := by decide +kernel
theorem dX1_fillCell_14 : decode cX1_fillCell 14 = .ok (.ldc2_w 30, 3) := by decide +kernel
theorem dX1_fillCell_17 : decode cX1_fillCell 17 = .ok (.lastore, 1) := by decide +kernel
theorem dX1_fillCell_18 : decode cX1_fillCell 18 = .ok (.aload_n 0, 1) := by decide +kernel
theorem dX1_fillCell_19 : decode cX1_fillCell 19 = .ok (.getfield 27, 3) := by decide +kernel
theorem dX1_fillCell_22 : decode cX1_fillCell 22 = .ok (.iload 5, 2) := by decide +kernel
theorem dX1_fillCell_24 : decode cX1_fillCell 24 = .ok (.ldc2_w 30, 3) := by decide +kernel
theorem dX1_fillCell_27 : decode cX1_fillCell 27 = .ok (.lastore, 1) := by decide +kernel
theorem dX1_fillCell_28 : decode cX1_fillCell 28 = .ok (.iload_n 3, 1) := by decide +kernel
theorem dX1_fillCell_29 : decode cX1_fillCell 29 = .ok (.istore 6, 2) := by decide +kernel
theorem dX1_fillCell_31 : decode cX1_fillCell 31 = .ok (.iload 6, 2) := by decide +kernel
theorem dX1_fillCell_33 : decode cX1_fillCell 33 = .ok (.iload 4, 2) := by decide +kernel
theorem dX1_fillCell_35 : decode cX1_fillCell 35 = .ok (.if_icmp .gt 141, 3) := by decide +kernel
theorem dX1_fillCell_38 : decode cX1_fillCell 38 = .ok (.aload_n 0, 1) := by decide +kernel
theorem dX1_fillCell_39 : decode cX1_fillCell 39 = .ok (.getfield 17, 3) := by decide +kernel
theorem dX1_fillCell_42 : decode cX1_fillCell 42 = .ok (.iload_n 1, 1) := by decide +kernel
theorem dX1_fillCell_43 : decode cX1_fillCell 43 = .ok (.bipush 24, 2) := by decide +kernel
theorem dX1_fillCell_45 : decode cX1_fillCell 45 = .ok (.imul, 1) := by decide +kernel
theorem dX1_fillCell_46 : decode cX1_fillCell 46 = .ok (.iload 6, 2) := by decide +kernel
theorem dX1_fillCell_48 : decode cX1_fillCell 48 = .ok (.iadd, 1) := by decide +kernel
theorem dX1_fillCell_49 : decode cX1_fillCell 49 = .ok (.laload, 1) := by decide +kernel
theorem dX1_fillCell_50 : decode cX1_fillCell 50 = .ok (.lstore 7, 2) := by decide +kernel
theorem dX1_fillCell_52 : decode cX1_fillCell 52 = .ok (.lload 7, 2) := by decide +kernel
theorem dX1_fillCell_54 : decode cX1_fillCell 54 = .ok (.ldc2_w 64, 3) := by decide +kernel
theorem dX1_fillCell_57 : decode cX1_fillCell 57 = .ok (.lcmp, 1) := by decide +kernel
theorem dX1_fillCell_58 : decode cX1_fillCell 58 = .ok (.ifCond .ne 6, 3) := by decide +kernel
theorem dX1_fillCell_61 : decode cX1_fillCell 61 = .ok (.goto 109, 3) := by decide +kernel
theorem dX1_fillCell_64 : decode cX1_fillCell 64 = .ok (.lload 7, 2) := by decide +kernel
theorem dX1_fillCell_66 : decode cX1_fillCell 66 = .ok (.ldc2_w 62, 3) := by decide +kernel
theorem dX1_fillCell_69 : decode cX1_fillCell 69 = .ok (.lmul, 1) := by decide +kernel
theorem dX1_fillCell_70 : decode cX1_fillCell 70 = .ok (.lconst 1, 1) := by decide +kernel
theorem dX1_fillCell_71 : decode cX1_fillCell 71 = .ok (.ladd, 1) := by decide +kernel
theorem dX1_fillCell_72 : decode cX1_fillCell 72 = .ok (.lstore 9, 2) := by decide +kernel
theorem dX1_fillCell_74 : decode cX1_fillCell 74 = .ok (.iload 6, 2) := by decide +kernel
theorem dX1_fillCell_76 : decode cX1_fillCell 76 = .ok (.aload_n 0, 1) := by decide +kernel
theorem dX1_fillCell_77 : decode cX1_fillCell 77 = .ok (.getfield 11, 3) := by decide +kernel
theorem dX1_fillCell_80 : decode cX1_fillCell 80 = .ok (.getfield 39, 3) := by decide +kernel
theorem dX1_fillCell_83 : decode cX1_fillCell 83 = .ok (.iconst 1, 1) := by decide +kernel
theorem dX1_fillCell_84 : decode cX1_fillCell 84 = .ok (.isub, 1) := by decide +kernel
theorem dX1_fillCell_85 : decode cX1_fillCell 85 = .ok (.if_icmp .ne 72, 3) := by decide +kernel
theorem dX1_fillCell_88 : decode cX1_fillCell 88 = .ok (.iload_n 2, 1) := by decide +kernel
theorem dX1_fillCell_89 : decode cX1_fillCell 89 = .ok (.ifCond .ne 11, 3) := by decide +kernel
theorem dX1_fillCell_92 : decode cX1_fillCell 92 = .ok (.iload_n 1, 1) := by decide +kernel
theorem dX1_fillCell_93 : decode cX1_fillCell 93 = .ok (.ifCond .le 7, 3) := by decide +kernel
theorem dX1_fillCell_96 : decode cX1_fillCell 96 = .ok (.iconst 1, 1) := by decide +kernel
theorem dX1_fillCell_97 : decode cX1_fillCell 97 = .ok (.goto 4, 3) := by decide +kernel
theorem dX1_fillCell_100 : decode cX1_fillCell 100 = .ok (.iconst 0, 1) := by decide +kernel
theorem dX1_fillCell_101 : decode cX1_fillCell 101 = .ok (.istore 11, 2) := by decide +kernel
theorem dX1_fillCell_103 : decode cX1_fillCell 103 = .ok (.iload 11, 2) := by decide +kernel
theorem dX1_fillCell_105 : decode cX1_fillCell 105 = .ok (.ifCond .eq 16, 3) := by decide +kernel
theorem dX1_fillCell_108 : decode cX1_fillCell 108 = .ok (.aload_n 0, 1) := by decide +kernel
theorem dX1_fillCell_109 : decode cX1_fillCell 109 = .ok (.getfield 11, 3) := by decide +kernel
theorem dX1_fillCell_112 : decode cX1_fillCell 112 = .ok (.getfield 94, 3) := by decide +kernel
theorem dX1_fillCell_115 : decode cX1_fillCell 115 = .ok (.iconst 2, 1) := by decide +kernel
theorem dX1_fillCell_116 : decode cX1_fillCell 116 = .ok (.iaload, 1) := by decide +kernel
theorem dX1_fillCell_117 : decode cX1_fillCell 117 = .ok (.i2l, 1) := by decide +kernel
theorem dX1_fillCell_118 : decode cX1_fillCell 118 = .ok (.goto 4, 3) := by decide +kernel
theorem dX1_fillCell_121 : decode cX1_fillCell 121 = .ok (.lconst 0, 1) := by decide +kernel
theorem dX1_fillCell_122 : decode cX1_fillCell 122 = .ok (.ldc2_w 62, 3) := by decide +kernel
theorem dX1_fillCell_125 : decode cX1_fillCell 125 = .ok (.lmul, 1) := by decide +kernel
theorem dX1_fillCell_126 : decode cX1_fillCell 126 = .ok (.ldc2_w 98, 3) := by decide +kernel
theorem dX1_fillCell_129 : decode cX1_fillCell 129 = .ok (.ladd, 1) := by decide +kernel
theorem dX1_fillCell_130 : decode cX1_fillCell 130 = .ok (.lstore 12, 2) := by decide +kernel
theorem dX1_fillCell_132 : decode cX1_fillCell 132 = .ok (.aload_n 0, 1) := by decide +kernel
theorem dX1_fillCell_133 : decode cX1_fillCell 133 = .ok (.iload 5, 2) := by decide +kernel
theorem dX1_fillCell_135 : decode cX1_fillCell 135 = .ok (.lload 9, 2) := by decide +kernel
theorem dX1_fillCell_137 : decode cX1_fillCell 137 = .ok (.lload 12, 2) := by decide +kernel
theorem dX1_fillCell_139 : decode cX1_fillCell 139 = .ok (.ladd, 1) := by decide +kernel
theorem dX1_fillCell_140 : decode cX1_fillCell 140 = .ok (.iload 6, 2) := by decide +kernel
theorem dX1_fillCell_142 : decode cX1_fillCell 142 = .ok (.invokestatic 66, 3) := by decide +kernel
theorem dX1_fillCell_145 : decode cX1_fillCell 145 = .ok (.iload 6, 2) := by decide +kernel
theorem dX1_fillCell_147 : decode cX1_fillCell 147 = .ok (.invokestatic 70, 3) := by decide +kernel
theorem dX1_fillCell_150 : decode cX1_fillCell 150 = .ok (.ladd, 1) := by decide +kernel
theorem dX1_fillCell_151 : decode cX1_fillCell 151 = .ok (.invokevirtual 100, 3) := by decide +kernel
theorem dX1_fillCell_154 : decode cX1_fillCell 154 = .ok (.goto 16, 3) := by decide +kernel
theorem dX1_fillCell_157 : decode cX1_fillCell 157 = .ok (.aload_n 0, 1) := by decide +kernel
theorem dX1_fillCell_158 : decode cX1_fillCell 158 = .ok (.iload 5, 2) := by decide +kernel
theorem dX1_fillCell_160 : decode cX1_fillCell 160 = .ok (.lload 9, 2) := by decide +kernel
theorem dX1_fillCell_162 : decode cX1_fillCell 162 = .ok (.iload 6, 2) := by decide +kernel
theorem dX1_fillCell_164 : decode cX1_fillCell 164 = .ok (.iload_n 2, 1) := by decide +kernel
theorem dX1_fillCell_165 : decode cX1_fillCell 165 = .ok (.iconst 1, 1) := by decide +kernel
theorem dX1_fillCell_166 : decode cX1_fillCell 166 = .ok (.iadd, 1) := by decide +kernel
theorem dX1_fillCell_167 : decode cX1_fillCell 167 = .ok (.invokevirtual 104, 3) := by decide +kernel
theorem dX1_fillCell_170 : decode cX1_fillCell 170 = .ok (.iinc 6 1, 3) := by decide +kernel
theorem dX1_fillCell_173 : decode cX1_fillCell 173 = .ok (.goto (-142), 3) := by decide +kernel
theorem dX1_fillCell_176 : decode cX1_fillCell 176 = .ok (.return_, 1) := by decide +kernel
set_option maxRecDepth 20000 in
theorem ggX1_offerGoingOn_X1_lineEnd : GoodIn wsX1_offerGoingOn wsX1_lineEnd := goodIn_r _ [12] rfl (by decide +kernel)
set_option maxRecDepth 20000 in
theorem gX1_offerGoingOn_X1_lineEnd : GoodIn wsX1_offerGoingOn (va_wsS RX1 66 yX1_lineEnd wsX1_lineEnd) := goodIn_app (goodIn_of _ (by decide +kernel)) ggX1_offerGoingOn_X1_lineEnd
set_option maxRecDepth 20000 in
theorem ggX1_offerGoingOn_X1_pageEnd : GoodIn wsX1_offerGoingOn wsX1_pageEnd := goodIn_r _ [15] rfl (by decide +kernel)
set_option maxRecDepth 20000 in
theorem gX1_offerGoingOn_X1_pageEnd : GoodIn wsX1_offerGoingOn (va_wsS RX1 70 yX1_pageEnd wsX1_pageEnd) := goodIn_app (goodIn_of _ (by decide +kernel)) ggX1_offerGoingOn_X1_pageEnd
set_option maxRecDepth 20000 in
theorem ggX1_offerGoingOn_X1_offer : GoodIn wsX1_offerGoingOn wsX1_offer := goodIn_r _ [19, 1, 6, 20, 21, 22, 23, 24, 25, 26] rfl (by decide +kernel)
set_option maxRecDepth 20000 in
theorem gX1_offerGoingOn_X1_offer : GoodIn wsX1_offerGoingOn (wsV RX1 100 RX1 yX1_offer wsX1_offer) := goodIn_app (goodIn_of _ (by decide +kernel)) ggX1_offerGoingOn_X1_offer
theorem dX1_offerGoingOn_0 : decode cX1_offerGoingOn 0 = .ok (.iload 4, 2) := by decide +kernel
theorem dX1_offerGoingOn_2 : decode cX1_offerGoingOn 2 = .ok (.iconst 1, 1) := by decide +kernel
