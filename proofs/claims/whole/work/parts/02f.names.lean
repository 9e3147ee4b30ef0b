theorem dX3_would_29 : decode cX3_would 29 = .ok (.iload_n 2, 1) := by decide +kernel
theorem dX3_would_30 : decode cX3_would 30 = .ok (.invokevirtual 66, 3) := by decide +kernel
theorem dX3_would_33 : decode cX3_would 33 = .ok (.istore_n 3, 1) := by decide +kernel
theorem dX3_would_34 : decode cX3_would 34 = .ok (.aload_n 0, 1) := by decide +kernel
theorem dX3_would_35 : decode cX3_would 35 = .ok (.getfield 18, 3) := by decide +kernel
theorem dX3_would_38 : decode cX3_would 38 = .ok (.iload_n 1, 1) := by decide +kernel
theorem dX3_would_39 : decode cX3_would 39 = .ok (.iload_n 2, 1) := by decide +kernel
theorem dX3_would_40 : decode cX3_would 40 = .ok (.iconst 1, 1) := by decide +kernel
theorem dX3_would_41 : decode cX3_would 41 = .ok (.invokevirtual 69, 3) := by decide +kernel
theorem dX3_would_44 : decode cX3_would 44 = .ok (.aload_n 0, 1) := by decide +kernel
theorem dX3_would_45 : decode cX3_would 45 = .ok (.getfield 27, 3) := by decide +kernel
theorem dX3_would_48 : decode cX3_would 48 = .ok (.invokevirtual 137, 3) := by decide +kernel
theorem dX3_would_51 : decode cX3_would 51 = .ok (.aload_n 0, 1) := by decide +kernel
theorem dX3_would_52 : decode cX3_would 52 = .ok (.getfield 18, 3) := by decide +kernel
theorem dX3_would_55 : decode cX3_would 55 = .ok (.iload_n 1, 1) := by decide +kernel
theorem dX3_would_56 : decode cX3_would 56 = .ok (.iload_n 2, 1) := by decide +kernel
theorem dX3_would_57 : decode cX3_would 57 = .ok (.iload_n 3, 1) := by decide +kernel
theorem dX3_would_58 : decode cX3_would 58 = .ok (.invokevirtual 69, 3) := by decide +kernel
theorem dX3_would_61 : decode cX3_would 61 = .ok (.aload_n 0, 1) := by decide +kernel
theorem dX3_would_62 : decode cX3_would 62 = .ok (.getfield 27, 3) := by decide +kernel
theorem dX3_would_65 : decode cX3_would 65 = .ok (.invokevirtual 140, 3) := by decide +kernel
theorem dX3_would_68 : decode cX3_would 68 = .ok (.lreturn, 1) := by decide +kernel
set_option maxRecDepth 20000 in
theorem ggX3_findBest_X1_run : GoodIn wsX3_findBest wsX1_run := goodIn_r _ [10, 11, 12, 13, 14, 15, 16, 17, 18, 19, 20, 21, 9, 22, 23, 24, 25, 26, 27, 28, 29, 30, 31, 32, 33, 34, 35, 36, 37, 38, 39, 40, 41, 42, 43, 44, 45, 46, 47, 48, 49, 50, 51, 52, 53, 54, 55, 56, 57, 58, 59, 60, 61, 62, 63, 64, 65, 66, 67, 68, 69, 70, 71, 72, 73, 74, 75, 76, 77, 78, 79, 80, 81, 82, 83, 84, 85, 86, 87, 88, 89, 90, 91, 92, 93, 94, 95, 138, 139, 140, 141, 142, 143, 144, 130, 131, 132, 133, 134, 135, 136, 137] rfl (by decide +kernel)
set_option maxRecDepth 20000 in
theorem gX3_findBest_X1_run : GoodIn wsX3_findBest (wsV RX3 137 RX1 yX1_run wsX1_run) := goodIn_app (goodIn_of _ (by decide +kernel)) ggX3_findBest_X1_run
set_option maxRecDepth 20000 in
theorem ggX3_findBest_X2_take : GoodIn wsX3_findBest wsX2_take := goodIn_r _ [100, 101, 102, 103, 104, 105, 106, 107, 108, 109, 110, 111, 9, 112, 16, 15, 113, 114, 115, 116, 75, 74, 117, 118, 119, 120, 121, 11, 78, 79, 80, 122, 123, 124, 125, 81, 82, 83, 145, 146, 147, 148, 149, 150, 151, 152, 138, 139, 140, 141, 142, 143, 144] rfl (by decide +kernel)
set_option maxRecDepth 20000 in
theorem gX3_findBest_X2_take : GoodIn wsX3_findBest (wsV RX3 144 RX2 yX2_take wsX2_take) := goodIn_app (goodIn_of _ (by decide +kernel)) ggX3_findBest_X2_take
theorem dX3_findBest_0 : decode cX3_findBest 0 = .ok (.aload_n 0, 1) := by decide +kernel
theorem dX3_findBest_1 : decode cX3_findBest 1 = .ok (.getfield 38, 3) := by decide +kernel
theorem dX3_findBest_4 : decode cX3_findBest 4 = .ok (.ifCond .eq 4, 3) := by decide +kernel
theorem dX3_findBest_7 : decode cX3_findBest 7 = .ok (.return_, 1) := by decide +kernel
theorem dX3_findBest_8 : decode cX3_findBest 8 = .ok (.aload_n 0, 1) := by decide +kernel
theorem dX3_findBest_9 : decode cX3_findBest 9 = .ok (.getfield 27, 3) := by decide +kernel
theorem dX3_findBest_12 : decode cX3_findBest 12 = .ok (.invokevirtual 137, 3) := by decide +kernel
theorem dX3_findBest_15 : decode cX3_findBest 15 = .ok (.aload_n 0, 1) := by decide +kernel
theorem dX3_findBest_16 : decode cX3_findBest 16 = .ok (.getfield 34, 3) := by decide +kernel
theorem dX3_findBest_19 : decode cX3_findBest 19 = .ok (.aload_n 0, 1) := by decide +kernel
theorem dX3_findBest_20 : decode cX3_findBest 20 = .ok (.getfield 27, 3) := by decide +kernel
theorem dX3_findBest_23 : decode cX3_findBest 23 = .ok (.aload_n 0, 1) := by decide +kernel
theorem dX3_findBest_24 : decode cX3_findBest 24 = .ok (.getfield 18, 3) := by decide +kernel
theorem dX3_findBest_27 : decode cX3_findBest 27 = .ok (.getfield 46, 3) := by decide +kernel
theorem dX3_findBest_30 : decode cX3_findBest 30 = .ok (.invokevirtual 144, 3) := by decide +kernel
theorem dX3_findBest_33 : decode cX3_findBest 33 = .ok (.aload_n 0, 1) := by decide +kernel
theorem dX3_findBest_34 : decode cX3_findBest 34 = .ok (.iconst 1, 1) := by decide +kernel
theorem dX3_findBest_35 : decode cX3_findBest 35 = .ok (.putfield 38, 3) := by decide +kernel
theorem dX3_findBest_38 : decode cX3_findBest 38 = .ok (.return_, 1) := by decide +kernel
set_option maxRecDepth 20000 in
theorem ggX3_pagePrice_X2_lastBar : GoodIn wsX3_pagePrice wsX2_lastBar := goodIn_r _ [10, 11, 32, 33, 34, 35, 36, 37, 38, 39] rfl (by decide +kernel)
set_option maxRecDepth 20000 in
theorem gX3_pagePrice_X2_lastBar : GoodIn wsX3_pagePrice (wsV RX3 108 RX2 yX2_lastBar wsX2_lastBar) := goodIn_app (goodIn_of _ (by decide +kernel)) ggX3_pagePrice_X2_lastBar
set_option maxRecDepth 20000 in
theorem ggX3_pagePrice_X0_turnPrice : GoodIn wsX3_pagePrice wsX0_turnPrice := goodIn_r _ [16, 17, 18, 19, 20, 15, 21, 22, 40, 41, 42, 43, 44, 45, 46, 47] rfl (by decide +kernel)
set_option maxRecDepth 20000 in
theorem gX3_pagePrice_X0_turnPrice : GoodIn wsX3_pagePrice (wsV RX3 148 RX0 yX0_turnPrice wsX0_turnPrice) := goodIn_app (goodIn_of _ (by decide +kernel)) ggX3_pagePrice_X0_turnPrice
set_option maxRecDepth 20000 in
theorem ggX3_pagePrice_X2_linesOnPage : GoodIn wsX3_pagePrice wsX2_linesOnPage := goodIn_r _ [26, 27, 32, 33, 34, 35, 36, 37, 38, 39] rfl (by decide +kernel)
set_option maxRecDepth 20000 in
theorem gX3_pagePrice_X2_linesOnPage : GoodIn wsX3_pagePrice (wsV RX3 121 RX2 yX2_linesOnPage wsX2_linesOnPage) := goodIn_app (goodIn_of _ (by decide +kernel)) ggX3_pagePrice_X2_linesOnPage
theorem dX3_pagePrice_0 : decode cX3_pagePrice 0 = .ok (.iload_n 1, 1) := by decide +kernel
theorem dX3_pagePrice_1 : decode cX3_pagePrice 1 = .ok (.aload_n 0, 1) := by decide +kernel
theorem dX3_pagePrice_2 : decode cX3_pagePrice 2 = .ok (.getfield 34, 3) := by decide +kernel
theorem dX3_pagePrice_5 : decode cX3_pagePrice 5 = .ok (.getfield 96, 3) := by decide +kernel
theorem dX3_pagePrice_8 : decode cX3_pagePrice 8 = .ok (.iconst 1, 1) := by decide +kernel
theorem dX3_pagePrice_9 : decode cX3_pagePrice 9 = .ok (.isub, 1) := by decide +kernel
theorem dX3_pagePrice_10 : decode cX3_pagePrice 10 = .ok (.if_icmp .ge 31, 3) := by decide +kernel
theorem dX3_pagePrice_13 : decode cX3_pagePrice 13 = .ok (.aload_n 0, 1) := by decide +kernel
theorem dX3_pagePrice_14 : decode cX3_pagePrice 14 = .ok (.getfield 18, 3) := by decide +kernel
theorem dX3_pagePrice_17 : decode cX3_pagePrice 17 = .ok (.aload_n 0, 1) := by decide +kernel
theorem dX3_pagePrice_18 : decode cX3_pagePrice 18 = .ok (.getfield 34, 3) := by decide +kernel
theorem dX3_pagePrice_21 : decode cX3_pagePrice 21 = .ok (.aload_n 0, 1) := by decide +kernel
theorem dX3_pagePrice_22 : decode cX3_pagePrice 22 = .ok (.getfield 34, 3) := by decide +kernel
theorem dX3_pagePrice_25 : decode cX3_pagePrice 25 = .ok (.getfield 118, 3) := by decide +kernel
theorem dX3_pagePrice_28 : decode cX3_pagePrice 28 = .ok (.iload_n 1, 1) := by decide +kernel
theorem dX3_pagePrice_29 : decode cX3_pagePrice 29 = .ok (.iconst 1, 1) := by decide +kernel
theorem dX3_pagePrice_30 : decode cX3_pagePrice 30 = .ok (.iadd, 1) := by decide +kernel
theorem dX3_pagePrice_31 : decode cX3_pagePrice 31 = .ok (.iaload, 1) := by decide +kernel
theorem dX3_pagePrice_32 : decode cX3_pagePrice 32 = .ok (.iconst 1, 1) := by decide +kernel
theorem dX3_pagePrice_33 : decode cX3_pagePrice 33 = .ok (.isub, 1) := by decide +kernel
theorem dX3_pagePrice_34 : decode cX3_pagePrice 34 = .ok (.invokevirtual 108, 3) := by decide +kernel
theorem dX3_pagePrice_37 : decode cX3_pagePrice 37 = .ok (.invokevirtual 148, 3) := by decide +kernel
theorem dX3_pagePrice_40 : decode cX3_pagePrice 40 = .ok (.ireturn, 1) := by decide +kernel
theorem dX3_pagePrice_41 : decode cX3_pagePrice 41 = .ok (.iload_n 1, 1) := by decide +kernel
theorem dX3_pagePrice_42 : decode cX3_pagePrice 42 = .ok (.ifCond .le 27, 3) := by decide +kernel
theorem dX3_pagePrice_45 : decode cX3_pagePrice 45 = .ok (.aload_n 0, 1) := by decide +kernel
theorem dX3_pagePrice_46 : decode cX3_pagePrice 46 = .ok (.getfield 34, 3) := by decide +kernel
theorem dX3_pagePrice_49 : decode cX3_pagePrice 49 = .ok (.iload_n 1, 1) := by decide +kernel
theorem dX3_pagePrice_50 : decode cX3_pagePrice 50 = .ok (.invokevirtual 121, 3) := by decide +kernel
theorem dX3_pagePrice_53 : decode cX3_pagePrice 53 = .ok (.iconst 1, 1) := by decide +kernel
theorem dX3_pagePrice_54 : decode cX3_pagePrice 54 = .ok (.if_icmp .ne 15, 3) := by decide +kernel
theorem dX3_pagePrice_57 : decode cX3_pagePrice 57 = .ok (.aload_n 0, 1) := by decide +kernel
theorem dX3_pagePrice_58 : decode cX3_pagePrice 58 = .ok (.getfield 18, 3) := by decide +kernel
theorem dX3_pagePrice_61 : decode cX3_pagePrice 61 = .ok (.getfield 74, 3) := by decide +kernel
theorem dX3_pagePrice_64 : decode cX3_pagePrice 64 = .ok (.iconst 2, 1) := by decide +kernel
theorem dX3_pagePrice_65 : decode cX3_pagePrice 65 = .ok (.iaload, 1) := by decide +kernel
theorem dX3_pagePrice_66 : decode cX3_pagePrice 66 = .ok (.goto 4, 3) := by decide +kernel
theorem dX3_pagePrice_69 : decode cX3_pagePrice 69 = .ok (.iconst 0, 1) := by decide +kernel
theorem dX3_pagePrice_70 : decode cX3_pagePrice 70 = .ok (.ireturn, 1) := by decide +kernel
set_option maxRecDepth 20000 in
theorem ggX3_areWidths_X3_isWithin : GoodIn wsX3_areWidths wsX3_isWithin := goodIn_r _ [4] rfl (by decide +kernel)
set_option maxRecDepth 20000 in
theorem gX3_areWidths_X3_isWithin : GoodIn wsX3_areWidths (va_wsS RX3 62 yX3_isWithin wsX3_isWithin) := goodIn_app (goodIn_of _ (by decide +kernel)) ggX3_areWidths_X3_isWithin
theorem dX3_areWidths_0 : decode cX3_areWidths 0 = .ok (.iload_n 1, 1) := by decide +kernel
theorem dX3_areWidths_1 : decode cX3_areWidths 1 = .ok (.iconst 1, 1) := by decide +kernel
theorem dX3_areWidths_2 : decode cX3_areWidths 2 = .ok (.sipush 400, 3) := by decide +kernel
theorem dX3_areWidths_5 : decode cX3_areWidths 5 = .ok (.invokestatic 62, 3) := by decide +kernel
theorem dX3_areWidths_8 : decode cX3_areWidths 8 = .ok (.ifCond .eq 16, 3) := by decide +kernel
theorem dX3_areWidths_11 : decode cX3_areWidths 11 = .ok (.iload_n 0, 1) := by decide +kernel
theorem dX3_areWidths_12 : decode cX3_areWidths 12 = .ok (.iconst 1, 1) := by decide +kernel
theorem dX3_areWidths_13 : decode cX3_areWidths 13 = .ok (.iload_n 1, 1) := by decide +kernel
theorem dX3_areWidths_14 : decode cX3_areWidths 14 = .ok (.invokestatic 62, 3) := by decide +kernel
theorem dX3_areWidths_17 : decode cX3_areWidths 17 = .ok (.ifCond .eq 7, 3) := by decide +kernel
theorem dX3_areWidths_20 : decode cX3_areWidths 20 = .ok (.iconst 1, 1) := by decide +kernel
theorem dX3_areWidths_21 : decode cX3_areWidths 21 = .ok (.goto 4, 3) := by decide +kernel
theorem dX3_areWidths_24 : decode cX3_areWidths 24 = .ok (.iconst 0, 1) := by decide +kernel
theorem dX3_areWidths_25 : decode cX3_areWidths 25 = .ok (.ireturn, 1) := by decide +kernel
theorem dX3_isWithin_0 : decode cX3_isWithin 0 = .ok (.iload_n 0, 1) := by decide +kernel
theorem dX3_isWithin_1 : decode cX3_isWithin 1 = .ok (.iload_n 1, 1) := by decide +kernel
theorem dX3_isWithin_2 : decode cX3_isWithin 2 = .ok (.if_icmp .lt 12, 3) := by decide +kernel
theorem dX3_isWithin_5 : decode cX3_isWithin 5 = .ok (.iload_n 0, 1) := by decide +kernel
theorem dX3_isWithin_6 : decode cX3_isWithin 6 = .ok (.iload_n 2, 1) := by decide +kernel
theorem dX3_isWithin_7 : decode cX3_isWithin 7 = .ok (.if_icmp .gt 7, 3) := by decide +kernel
theorem dX3_isWithin_10 : decode cX3_isWithin 10 = .ok (.iconst 1, 1) := by decide +kernel
theorem dX3_isWithin_11 : decode cX3_isWithin 11 = .ok (.goto 4, 3) := by decide +kernel
theorem dX3_isWithin_14 : decode cX3_isWithin 14 = .ok (.iconst 0, 1) := by decide +kernel
theorem dX3_isWithin_15 : decode cX3_isWithin 15 = .ok (.ireturn, 1) := by decide +kernel
theorem dX3_nearest_0 : decode cX3_nearest 0 = .ok (.iload_n 1, 1) := by decide +kernel
theorem dX3_nearest_1 : decode cX3_nearest 1 = .ok (.iload_n 2, 1) := by decide +kernel
theorem dX3_nearest_2 : decode cX3_nearest 2 = .ok (.iload_n 0, 1) := by decide +kernel
theorem dX3_nearest_3 : decode cX3_nearest 3 = .ok (.invokestatic 151, 3) := by decide +kernel
theorem dX3_nearest_6 : decode cX3_nearest 6 = .ok (.invokestatic 156, 3) := by decide +kernel
theorem dX3_nearest_9 : decode cX3_nearest 9 = .ok (.ireturn, 1) := by decide +kernel
theorem dX4_init_0 : decode cX4_init 0 = .ok (.aload_n 0, 1) := by decide +kernel
theorem dX4_init_1 : decode cX4_init 1 = .ok (.invokespecial 1, 3) := by decide +kernel
theorem dX4_init_4 : decode cX4_init 4 = .ok (.aload_n 0, 1) := by decide +kernel
theorem dX4_init_5 : decode cX4_init 5 = .ok (.bipush 24, 2) := by decide +kernel
theorem dX4_init_7 : decode cX4_init 7 = .ok (.newarray .int, 2) := by decide +kernel
theorem dX4_init_9 : decode cX4_init 9 = .ok (.putfield 7, 3) := by decide +kernel
theorem dX4_init_12 : decode cX4_init 12 = .ok (.aload_n 0, 1) := by decide +kernel
theorem dX4_init_13 : decode cX4_init 13 = .ok (.bipush 24, 2) := by decide +kernel
theorem dX4_init_15 : decode cX4_init 15 = .ok (.newarray .int, 2) := by decide +kernel
theorem dX4_init_17 : decode cX4_init 17 = .ok (.putfield 13, 3) := by decide +kernel
theorem dX4_init_20 : decode cX4_init 20 = .ok (.aload_n 0, 1) := by decide +kernel
theorem dX4_init_21 : decode cX4_init 21 = .ok (.bipush 72, 2) := by decide +kernel
theorem dX4_init_23 : decode cX4_init 23 = .ok (.newarray .boolean, 2) := by decide +kernel
theorem dX4_init_25 : decode cX4_init 25 = .ok (.putfield 16, 3) := by decide +kernel
theorem dX4_init_28 : decode cX4_init 28 = .ok (.aload_n 0, 1) := by decide +kernel
theorem dX4_init_29 : decode cX4_init 29 = .ok (.iconst 5, 1) := by decide +kernel
theorem dX4_init_30 : decode cX4_init 30 = .ok (.newarray .long, 2) := by decide +kernel
theorem dX4_init_32 : decode cX4_init 32 = .ok (.putfield 20, 3) := by decide +kernel
theorem dX4_init_35 : decode cX4_init 35 = .ok (.aload_n 0, 1) := by decide +kernel
theorem dX4_init_36 : decode cX4_init 36 = .ok (.sipush 11250, 3) := by decide +kernel
theorem dX4_init_39 : decode cX4_init 39 = .ok (.newarray .long, 2) := by decide +kernel
theorem dX4_init_41 : decode cX4_init 41 = .ok (.putfield 24, 3) := by decide +kernel
theorem dX4_init_44 : decode cX4_init 44 = .ok (.aload_n 0, 1) := by decide +kernel
theorem dX4_init_45 : decode cX4_init 45 = .ok (.bipush 25, 2) := by decide +kernel
theorem dX4_init_47 : decode cX4_init 47 = .ok (.newarray .int, 2) := by decide +kernel
theorem dX4_init_49 : decode cX4_init 49 = .ok (.putfield 27, 3) := by decide +kernel
theorem dX4_init_52 : decode cX4_init 52 = .ok (.aload_n 0, 1) := by decide +kernel
theorem dX4_init_53 : decode cX4_init 53 = .ok (.bipush 25, 2) := by decide +kernel
theorem dX4_init_55 : decode cX4_init 55 = .ok (.newarray .int, 2) := by decide +kernel
theorem dX4_init_57 : decode cX4_init 57 = .ok (.putfield 30, 3) := by decide +kernel
theorem dX4_init_60 : decode cX4_init 60 = .ok (.aload_n 0, 1) := by decide +kernel
theorem dX4_init_61 : decode cX4_init 61 = .ok (.bipush 18, 2) := by decide +kernel
theorem dX4_init_63 : decode cX4_init 63 = .ok (.newarray .long, 2) := by decide +kernel
theorem dX4_init_65 : decode cX4_init 65 = .ok (.putfield 33, 3) := by decide +kernel
theorem dX4_init_68 : decode cX4_init 68 = .ok (.aload_n 0, 1) := by decide +kernel
theorem dX4_init_69 : decode cX4_init 69 = .ok (.bipush 18, 2) := by decide +kernel
theorem dX4_init_71 : decode cX4_init 71 = .ok (.newarray .long, 2) := by decide +kernel
theorem dX4_init_73 : decode cX4_init 73 = .ok (.putfield 36, 3) := by decide +kernel
theorem dX4_init_76 : decode cX4_init 76 = .ok (.aload_n 0, 1) := by decide +kernel
theorem dX4_init_77 : decode cX4_init 77 = .ok (.bipush 25, 2) := by decide +kernel
theorem dX4_init_79 : decode cX4_init 79 = .ok (.newarray .long, 2) := by decide +kernel
theorem dX4_init_81 : decode cX4_init 81 = .ok (.putfield 39, 3) := by decide +kernel
theorem dX4_init_84 : decode cX4_init 84 = .ok (.aload_n 0, 1) := by decide +kernel
theorem dX4_init_85 : decode cX4_init 85 = .ok (.iload_n 1, 1) := by decide +kernel
theorem dX4_init_86 : decode cX4_init 86 = .ok (.bipush 100, 2) := by decide +kernel
theorem dX4_init_88 : decode cX4_init 88 = .ok (.if_icmp .ge 8, 3) := by decide +kernel
theorem dX4_init_91 : decode cX4_init 91 = .ok (.bipush 100, 2) := by decide +kernel
theorem dX4_init_93 : decode cX4_init 93 = .ok (.goto 17, 3) := by decide +kernel
theorem dX4_init_96 : decode cX4_init 96 = .ok (.iload_n 1, 1) := by decide +kernel
theorem dX4_init_97 : decode cX4_init 97 = .ok (.sipush 5000, 3) := by decide +kernel
theorem dX4_init_100 : decode cX4_init 100 = .ok (.if_icmp .le 9, 3) := by decide +kernel
theorem dX4_init_103 : decode cX4_init 103 = .ok (.sipush 5000, 3) := by decide +kernel
theorem dX4_init_106 : decode cX4_init 106 = .ok (.goto 4, 3) := by decide +kernel
theorem dX4_init_109 : decode cX4_init 109 = .ok (.iload_n 1, 1) := by decide +kernel
theorem dX4_init_110 : decode cX4_init 110 = .ok (.putfield 42, 3) := by decide +kernel
theorem dX4_init_113 : decode cX4_init 113 = .ok (.aload_n 0, 1) := by decide +kernel
theorem dX4_init_114 : decode cX4_init 114 = .ok (.iload_n 2, 1) := by decide +kernel
theorem dX4_init_115 : decode cX4_init 115 = .ok (.iconst 1, 1) := by decide +kernel
theorem dX4_init_116 : decode cX4_init 116 = .ok (.if_icmp .ge 7, 3) := by decide +kernel
theorem dX4_init_119 : decode cX4_init 119 = .ok (.iconst 1, 1) := by decide +kernel
theorem dX4_init_120 : decode cX4_init 120 = .ok (.goto 15, 3) := by decide +kernel
theorem dX4_init_123 : decode cX4_init 123 = .ok (.iload_n 2, 1) := by decide +kernel
theorem dX4_init_124 : decode cX4_init 124 = .ok (.bipush 8, 2) := by decide +kernel
theorem dX4_init_126 : decode cX4_init 126 = .ok (.if_icmp .le 8, 3) := by decide +kernel
theorem dX4_init_129 : decode cX4_init 129 = .ok (.bipush 8, 2) := by decide +kernel
theorem dX4_init_131 : decode cX4_init 131 = .ok (.goto 4, 3) := by decide +kernel
theorem dX4_init_134 : decode cX4_init 134 = .ok (.iload_n 2, 1) := by decide +kernel
theorem dX4_init_135 : decode cX4_init 135 = .ok (.putfield 46, 3) := by decide +kernel
theorem dX4_init_138 : decode cX4_init 138 = .ok (.aload_n 0, 1) := by decide +kernel
theorem dX4_init_139 : decode cX4_init 139 = .ok (.getfield 20, 3) := by decide +kernel
theorem dX4_init_142 : decode cX4_init 142 = .ok (.iconst 0, 1) := by decide +kernel
theorem dX4_init_143 : decode cX4_init 143 = .ok (.ldc2_w 49, 3) := by decide +kernel
theorem dX4_init_146 : decode cX4_init 146 = .ok (.lastore, 1) := by decide +kernel
theorem dX4_init_147 : decode cX4_init 147 = .ok (.aload_n 0, 1) := by decide +kernel
theorem dX4_init_148 : decode cX4_init 148 = .ok (.getfield 20, 3) := by decide +kernel
theorem dX4_init_151 : decode cX4_init 151 = .ok (.iconst 1, 1) := by decide +kernel
theorem dX4_init_152 : decode cX4_init 152 = .ok (.ldc2_w 51, 3) := by decide +kernel
theorem dX4_init_155 : decode cX4_init 155 = .ok (.lastore, 1) := by decide +kernel
theorem dX4_init_156 : decode cX4_init 156 = .ok (.aload_n 0, 1) := by decide +kernel
theorem dX4_init_157 : decode cX4_init 157 = .ok (.getfield 20, 3) := by decide +kernel
theorem dX4_init_160 : decode cX4_init 160 = .ok (.iconst 2, 1) := by decide +kernel
theorem dX4_init_161 : decode cX4_init 161 = .ok (.ldc2_w 53, 3) := by decide +kernel
theorem dX4_init_164 : decode cX4_init 164 = .ok (.lastore, 1) := by decide +kernel
theorem dX4_init_165 : decode cX4_init 165 = .ok (.aload_n 0, 1) := by decide +kernel
theorem dX4_init_166 : decode cX4_init 166 = .ok (.getfield 20, 3) := by decide +kernel
theorem dX4_init_169 : decode cX4_init 169 = .ok (.iconst 3, 1) := by decide +kernel
theorem dX4_init_170 : decode cX4_init 170 = .ok (.ldc2_w 55, 3) := by decide +kernel
theorem dX4_init_173 : decode cX4_init 173 = .ok (.lastore, 1) := by decide +kernel
theorem dX4_init_174 : decode cX4_init 174 = .ok (.aload_n 0, 1) := by decide +kernel
theorem dX4_init_175 : decode cX4_init 175 = .ok (.getfield 20, 3) := by decide +kernel
theorem dX4_init_178 : decode cX4_init 178 = .ok (.iconst 4, 1) := by decide +kernel
theorem dX4_init_179 : decode cX4_init 179 = .ok (.lconst 1, 1) := by decide +kernel
theorem dX4_init_180 : decode cX4_init 180 = .ok (.lastore, 1) := by decide +kernel
theorem dX4_init_181 : decode cX4_init 181 = .ok (.return_, 1) := by decide +kernel
theorem dX4_in_0 : decode cX4_in 0 = .ok (.iload_n 0, 1) := by decide +kernel
theorem dX4_in_1 : decode cX4_in 1 = .ok (.iload_n 1, 1) := by decide +kernel
theorem dX4_in_2 : decode cX4_in 2 = .ok (.if_icmp .lt 12, 3) := by decide +kernel
theorem dX4_in_5 : decode cX4_in 5 = .ok (.iload_n 0, 1) := by decide +kernel
theorem dX4_in_6 : decode cX4_in 6 = .ok (.iload_n 2, 1) := by decide +kernel
theorem dX4_in_7 : decode cX4_in 7 = .ok (.if_icmp .gt 7, 3) := by decide +kernel
theorem dX4_in_10 : decode cX4_in 10 = .ok (.iconst 1, 1) := by decide +kernel
theorem dX4_in_11 : decode cX4_in 11 = .ok (.goto 4, 3) := by decide +kernel
theorem dX4_in_14 : decode cX4_in 14 = .ok (.iconst 0, 1) := by decide +kernel
theorem dX4_in_15 : decode cX4_in 15 = .ok (.ireturn, 1) := by decide +kernel
set_option maxRecDepth 20000 in
theorem ggX4_isBar_X4_in : GoodIn wsX4_isBar wsX4_in := goodIn_r _ [5] rfl (by decide +kernel)
set_option maxRecDepth 20000 in
theorem gX4_isBar_X4_in : GoodIn wsX4_isBar (va_wsS RX4 60 yX4_in wsX4_in) := goodIn_app (goodIn_of _ (by decide +kernel)) ggX4_isBar_X4_in
theorem dX4_isBar_0 : decode cX4_isBar 0 = .ok (.iload_n 1, 1) := by decide +kernel
theorem dX4_isBar_1 : decode cX4_isBar 1 = .ok (.iconst 0, 1) := by decide +kernel
theorem dX4_isBar_2 : decode cX4_isBar 2 = .ok (.aload_n 0, 1) := by decide +kernel
theorem dX4_isBar_3 : decode cX4_isBar 3 = .ok (.getfield 57, 3) := by decide +kernel
theorem dX4_isBar_6 : decode cX4_isBar 6 = .ok (.iconst 1, 1) := by decide +kernel
theorem dX4_isBar_7 : decode cX4_isBar 7 = .ok (.isub, 1) := by decide +kernel
theorem dX4_isBar_8 : decode cX4_isBar 8 = .ok (.invokestatic 60, 3) := by decide +kernel
theorem dX4_isBar_11 : decode cX4_isBar 11 = .ok (.ireturn, 1) := by decide +kernel
set_option maxRecDepth 20000 in
theorem ggX4_areWidths_X4_in : GoodIn wsX4_areWidths wsX4_in := goodIn_r _ [4] rfl (by decide +kernel)
set_option maxRecDepth 20000 in
theorem gX4_areWidths_X4_in : GoodIn wsX4_areWidths (va_wsS RX4 60 yX4_in wsX4_in) := goodIn_app (goodIn_of _ (by decide +kernel)) ggX4_areWidths_X4_in
theorem dX4_areWidths_0 : decode cX4_areWidths 0 = .ok (.iload_n 0, 1) := by decide +kernel
theorem dX4_areWidths_1 : decode cX4_areWidths 1 = .ok (.iconst 1, 1) := by decide +kernel
theorem dX4_areWidths_2 : decode cX4_areWidths 2 = .ok (.sipush 400, 3) := by decide +kernel
theorem dX4_areWidths_5 : decode cX4_areWidths 5 = .ok (.invokestatic 60, 3) := by decide +kernel
theorem dX4_areWidths_8 : decode cX4_areWidths 8 = .ok (.ifCond .eq 18, 3) := by decide +kernel
theorem dX4_areWidths_11 : decode cX4_areWidths 11 = .ok (.iload_n 1, 1) := by decide +kernel
theorem dX4_areWidths_12 : decode cX4_areWidths 12 = .ok (.iload_n 0, 1) := by decide +kernel
theorem dX4_areWidths_13 : decode cX4_areWidths 13 = .ok (.sipush 400, 3) := by decide +kernel
theorem dX4_areWidths_16 : decode cX4_areWidths 16 = .ok (.invokestatic 60, 3) := by decide +kernel
theorem dX4_areWidths_19 : decode cX4_areWidths 19 = .ok (.ifCond .eq 7, 3) := by decide +kernel
theorem dX4_areWidths_22 : decode cX4_areWidths 22 = .ok (.iconst 1, 1) := by decide +kernel
theorem dX4_areWidths_23 : decode cX4_areWidths 23 = .ok (.goto 4, 3) := by decide +kernel
theorem dX4_areWidths_26 : decode cX4_areWidths 26 = .ok (.iconst 0, 1) := by decide +kernel
theorem dX4_areWidths_27 : decode cX4_areWidths 27 = .ok (.ireturn, 1) := by decide +kernel
set_option maxRecDepth 20000 in
theorem ggX4_bar_X4_areWidths : GoodIn wsX4_bar wsX4_areWidths := goodIn_r _ [8, 9, 10, 7, 11] rfl (by decide +kernel)
set_option maxRecDepth 20000 in
theorem gX4_bar_X4_areWidths : GoodIn wsX4_bar (va_wsS RX4 64 yX4_areWidths wsX4_areWidths) := goodIn_app (goodIn_of _ (by decide +kernel)) ggX4_bar_X4_areWidths
theorem dX4_bar_0 : decode cX4_bar 0 = .ok (.iload_n 1, 1) := by decide +kernel
theorem dX4_bar_1 : decode cX4_bar 1 = .ok (.iload_n 2, 1) := by decide +kernel
theorem dX4_bar_2 : decode cX4_bar 2 = .ok (.invokestatic 64, 3) := by decide +kernel
theorem dX4_bar_5 : decode cX4_bar 5 = .ok (.ifCond .ne 6, 3) := by decide +kernel
theorem dX4_bar_8 : decode cX4_bar 8 = .ok (.bipush (-2), 2) := by decide +kernel
theorem dX4_bar_10 : decode cX4_bar 10 = .ok (.ireturn, 1) := by decide +kernel
theorem dX4_bar_11 : decode cX4_bar 11 = .ok (.aload_n 0, 1) := by decide +kernel
theorem dX4_bar_12 : decode cX4_bar 12 = .ok (.getfield 57, 3) := by decide +kernel
theorem dX4_bar_15 : decode cX4_bar 15 = .ok (.bipush 24, 2) := by decide +kernel
theorem dX4_bar_17 : decode cX4_bar 17 = .ok (.if_icmp .ne 6, 3) := by decide +kernel
theorem dX4_bar_20 : decode cX4_bar 20 = .ok (.bipush (-4), 2) := by decide +kernel
theorem dX4_bar_22 : decode cX4_bar 22 = .ok (.ireturn, 1) := by decide +kernel
theorem dX4_bar_23 : decode cX4_bar 23 = .ok (.aload_n 0, 1) := by decide +kernel
theorem dX4_bar_24 : decode cX4_bar 24 = .ok (.getfield 7, 3) := by decide +kernel
theorem dX4_bar_27 : decode cX4_bar 27 = .ok (.aload_n 0, 1) := by decide +kernel
theorem dX4_bar_28 : decode cX4_bar 28 = .ok (.getfield 57, 3) := by decide +kernel
theorem dX4_bar_31 : decode cX4_bar 31 = .ok (.iload_n 1, 1) := by decide +kernel
theorem dX4_bar_32 : decode cX4_bar 32 = .ok (.iastore, 1) := by decide +kernel
theorem dX4_bar_33 : decode cX4_bar 33 = .ok (.aload_n 0, 1) := by decide +kernel
theorem dX4_bar_34 : decode cX4_bar 34 = .ok (.getfield 13, 3) := by decide +kernel
theorem dX4_bar_37 : decode cX4_bar 37 = .ok (.aload_n 0, 1) := by decide +kernel
theorem dX4_bar_38 : decode cX4_bar 38 = .ok (.getfield 57, 3) := by decide +kernel
theorem dX4_bar_41 : decode cX4_bar 41 = .ok (.iload_n 2, 1) := by decide +kernel
theorem dX4_bar_42 : decode cX4_bar 42 = .ok (.iastore, 1) := by decide +kernel
theorem dX4_bar_43 : decode cX4_bar 43 = .ok (.aload_n 0, 1) := by decide +kernel
theorem dX4_bar_44 : decode cX4_bar 44 = .ok (.dup, 1) := by decide +kernel
theorem dX4_bar_45 : decode cX4_bar 45 = .ok (.getfield 57, 3) := by decide +kernel
theorem dX4_bar_48 : decode cX4_bar 48 = .ok (.iconst 1, 1) := by decide +kernel
theorem dX4_bar_49 : decode cX4_bar 49 = .ok (.iadd, 1) := by decide +kernel
theorem dX4_bar_50 : decode cX4_bar 50 = .ok (.putfield 57, 3) := by decide +kernel
theorem dX4_bar_53 : decode cX4_bar 53 = .ok (.aload_n 0, 1) := by decide +kernel
theorem dX4_bar_54 : decode cX4_bar 54 = .ok (.iconst 0, 1) := by decide +kernel
theorem dX4_bar_55 : decode cX4_bar 55 = .ok (.putfield 68, 3) := by decide +kernel
theorem dX4_bar_58 : decode cX4_bar 58 = .ok (.aload_n 0, 1) := by decide +kernel
theorem dX4_bar_59 : decode cX4_bar 59 = .ok (.getfield 57, 3) := by decide +kernel
theorem dX4_bar_62 : decode cX4_bar 62 = .ok (.iconst 1, 1) := by decide +kernel
theorem dX4_bar_63 : decode cX4_bar 63 = .ok (.isub, 1) := by decide +kernel
theorem dX4_bar_64 : decode cX4_bar 64 = .ok (.ireturn, 1) := by decide +kernel
set_option maxRecDepth 20000 in
theorem ggX4_change_X4_isBar : GoodIn wsX4_change wsX4_isBar := goodIn_r _ [8, 9, 10, 11, 7, 12, 16, 17, 18, 19, 20, 21, 22, 23, 24, 25, 26, 27, 28, 29, 30, 31, 32, 33] rfl (by decide +kernel)
set_option maxRecDepth 20000 in
theorem gX4_change_X4_isBar : GoodIn wsX4_change (wsV RX4 72 RX4 yX4_isBar wsX4_isBar) := goodIn_app (goodIn_of _ (by decide +kernel)) ggX4_change_X4_isBar
set_option maxRecDepth 20000 in
theorem ggX4_change_X4_areWidths : GoodIn wsX4_change wsX4_areWidths := goodIn_r _ [15, 10, 11, 7, 12] rfl (by decide +kernel)
set_option maxRecDepth 20000 in
theorem gX4_change_X4_areWidths : GoodIn wsX4_change (va_wsS RX4 64 yX4_areWidths wsX4_areWidths) := goodIn_app (goodIn_of _ (by decide +kernel)) ggX4_change_X4_areWidths
theorem dX4_change_0 : decode cX4_change 0 = .ok (.aload_n 0, 1) := by decide +kernel
theorem dX4_change_1 : decode cX4_change 1 = .ok (.iload_n 1, 1) := by decide +kernel
theorem dX4_change_2 : decode cX4_change 2 = .ok (.invokevirtual 72, 3) := by decide +kernel
theorem dX4_change_5 : decode cX4_change 5 = .ok (.ifCond .ne 5, 3) := by decide +kernel
theorem dX4_change_8 : decode cX4_change 8 = .ok (.iconst (-1), 1) := by decide +kernel
theorem dX4_change_9 : decode cX4_change 9 = .ok (.ireturn, 1) := by decide +kernel
theorem dX4_change_10 : decode cX4_change 10 = .ok (.iload_n 2, 1) := by decide +kernel
theorem dX4_change_11 : decode cX4_change 11 = .ok (.iload_n 3, 1) := by decide +kernel
theorem dX4_change_12 : decode cX4_change 12 = .ok (.invokestatic 64, 3) := by decide +kernel
theorem dX4_change_15 : decode cX4_change 15 = .ok (.ifCond .ne 6, 3) := by decide +kernel
theorem dX4_change_18 : decode cX4_change 18 = .ok (.bipush (-2), 2) := by decide +kernel
theorem dX4_change_20 : decode cX4_change 20 = .ok (.ireturn, 1) := by decide +kernel
theorem dX4_change_21 : decode cX4_change 21 = .ok (.aload_n 0, 1) := by decide +kernel
theorem dX4_change_22 : decode cX4_change 22 = .ok (.getfield 7, 3) := by decide +kernel
theorem dX4_change_25 : decode cX4_change 25 = .ok (.iload_n 1, 1) := by decide +kernel
theorem dX4_change_26 : decode cX4_change 26 = .ok (.iload_n 2, 1) := by decide +kernel
theorem dX4_change_27 : decode cX4_change 27 = .ok (.iastore, 1) := by decide +kernel
theorem dX4_change_28 : decode cX4_change 28 = .ok (.aload_n 0, 1) := by decide +kernel
theorem dX4_change_29 : decode cX4_change 29 = .ok (.getfield 13, 3) := by decide +kernel
theorem dX4_change_32 : decode cX4_change 32 = .ok (.iload_n 1, 1) := by decide +kernel
theorem dX4_change_33 : decode cX4_change 33 = .ok (.iload_n 3, 1) := by decide +kernel
theorem dX4_change_34 : decode cX4_change 34 = .ok (.iastore, 1) := by decide +kernel
theorem dX4_change_35 : decode cX4_change 35 = .ok (.aload_n 0, 1) := by decide +kernel
theorem dX4_change_36 : decode cX4_change 36 = .ok (.iconst 0, 1) := by decide +kernel
theorem dX4_change_37 : decode cX4_change 37 = .ok (.putfield 68, 3) := by decide +kernel
theorem dX4_change_40 : decode cX4_change 40 = .ok (.iconst 1, 1) := by decide +kernel
theorem dX4_change_41 : decode cX4_change 41 = .ok (.ireturn, 1) := by decide +kernel
set_option maxRecDepth 20000 in
theorem ggX4_mark_X4_isBar : GoodIn wsX4_mark wsX4_isBar := goodIn_r _ [7, 8, 9, 10, 6, 11, 12, 13, 14, 15, 16, 17, 18, 19, 20, 21, 22, 23, 24, 25, 26, 27, 28, 29] rfl (by decide +kernel)
set_option maxRecDepth 20000 in
theorem gX4_mark_X4_isBar : GoodIn wsX4_mark (wsV RX4 72 RX4 yX4_isBar wsX4_isBar) := goodIn_app (goodIn_of _ (by decide +kernel)) ggX4_mark_X4_isBar
set_option maxRecDepth 20000 in
theorem ggX4_mark_X4_in : GoodIn wsX4_mark wsX4_in := goodIn_r _ [11] rfl (by decide +kernel)
set_option maxRecDepth 20000 in
theorem gX4_mark_X4_in : GoodIn wsX4_mark (va_wsS RX4 60 yX4_in wsX4_in) := goodIn_app (goodIn_of _ (by decide +kernel)) ggX4_mark_X4_in
theorem dX4_mark_0 : decode cX4_mark 0 = .ok (.aload_n 0, 1) := by decide +kernel
theorem dX4_mark_1 : decode cX4_mark 1 = .ok (.iload_n 1, 1) := by decide +kernel
theorem dX4_mark_2 : decode cX4_mark 2 = .ok (.invokevirtual 72, 3) := by decide +kernel
theorem dX4_mark_5 : decode cX4_mark 5 = .ok (.ifCond .ne 5, 3) := by decide +kernel
theorem dX4_mark_8 : decode cX4_mark 8 = .ok (.iconst (-1), 1) := by decide +kernel
theorem dX4_mark_9 : decode cX4_mark 9 = .ok (.ireturn, 1) := by decide +kernel
theorem dX4_mark_10 : decode cX4_mark 10 = .ok (.iload_n 2, 1) := by decide +kernel
theorem dX4_mark_11 : decode cX4_mark 11 = .ok (.iconst 0, 1) := by decide +kernel
theorem dX4_mark_12 : decode cX4_mark 12 = .ok (.iconst 2, 1) := by decide +kernel
theorem dX4_mark_13 : decode cX4_mark 13 = .ok (.invokestatic 60, 3) := by decide +kernel
theorem dX4_mark_16 : decode cX4_mark 16 = .ok (.ifCond .ne 6, 3) := by decide +kernel
theorem dX4_mark_19 : decode cX4_mark 19 = .ok (.bipush (-2), 2) := by decide +kernel
theorem dX4_mark_21 : decode cX4_mark 21 = .ok (.ireturn, 1) := by decide +kernel
theorem dX4_mark_22 : decode cX4_mark 22 = .ok (.aload_n 0, 1) := by decide +kernel
theorem dX4_mark_23 : decode cX4_mark 23 = .ok (.getfield 16, 3) := by decide +kernel
theorem dX4_mark_26 : decode cX4_mark 26 = .ok (.iconst 3, 1) := by decide +kernel
theorem dX4_mark_27 : decode cX4_mark 27 = .ok (.iload_n 1, 1) := by decide +kernel
theorem dX4_mark_28 : decode cX4_mark 28 = .ok (.imul, 1) := by decide +kernel
theorem dX4_mark_29 : decode cX4_mark 29 = .ok (.iload_n 2, 1) := by decide +kernel
theorem dX4_mark_30 : decode cX4_mark 30 = .ok (.iadd, 1) := by decide +kernel
theorem dX4_mark_31 : decode cX4_mark 31 = .ok (.baload, 1) := by decide +kernel
theorem dX4_mark_32 : decode cX4_mark 32 = .ok (.ifCond .eq 7, 3) := by decide +kernel
theorem dX4_mark_35 : decode cX4_mark 35 = .ok (.iconst 1, 1) := by decide +kernel
theorem dX4_mark_36 : decode cX4_mark 36 = .ok (.goto 4, 3) := by decide +kernel
theorem dX4_mark_39 : decode cX4_mark 39 = .ok (.iconst 0, 1) := by decide +kernel
theorem dX4_mark_40 : decode cX4_mark 40 = .ok (.istore 4, 2) := by decide +kernel
theorem dX4_mark_42 : decode cX4_mark 42 = .ok (.aload_n 0, 1) := by decide +kernel
theorem dX4_mark_43 : decode cX4_mark 43 = .ok (.getfield 16, 3) := by decide +kernel
theorem dX4_mark_46 : decode cX4_mark 46 = .ok (.iconst 3, 1) := by decide +kernel
theorem dX4_mark_47 : decode cX4_mark 47 = .ok (.iload_n 1, 1) := by decide +kernel
theorem dX4_mark_48 : decode cX4_mark 48 = .ok (.imul, 1) := by decide +kernel
theorem dX4_mark_49 : decode cX4_mark 49 = .ok (.iload_n 2, 1) := by decide +kernel
theorem dX4_mark_50 : decode cX4_mark 50 = .ok (.iadd, 1) := by decide +kernel
theorem dX4_mark_51 : decode cX4_mark 51 = .ok (.iload_n 3, 1) := by decide +kernel
theorem dX4_mark_52 : decode cX4_mark 52 = .ok (.bastore, 1) := by decide +kernel
theorem dX4_mark_53 : decode cX4_mark 53 = .ok (.aload_n 0, 1) := by decide +kernel
theorem dX4_mark_54 : decode cX4_mark 54 = .ok (.iconst 0, 1) := by decide +kernel
theorem dX4_mark_55 : decode cX4_mark 55 = .ok (.putfield 68, 3) := by decide +kernel
theorem dX4_mark_58 : decode cX4_mark 58 = .ok (.iload 4, 2) := by decide +kernel
theorem dX4_mark_60 : decode cX4_mark 60 = .ok (.ireturn, 1) := by decide +kernel
set_option maxRecDepth 20000 in
theorem ggX4_cost_X4_in : GoodIn wsX4_cost wsX4_in := goodIn_r _ [7] rfl (by decide +kernel)
set_option maxRecDepth 20000 in
theorem gX4_cost_X4_in : GoodIn wsX4_cost (va_wsS RX4 60 yX4_in wsX4_in) := goodIn_app (goodIn_of _ (by decide +kernel)) ggX4_cost_X4_in
theorem dX4_cost_0 : decode cX4_cost 0 = .ok (.iload_n 1, 1) := by decide +kernel
theorem dX4_cost_1 : decode cX4_cost 1 = .ok (.iconst 0, 1) := by decide +kernel
theorem dX4_cost_2 : decode cX4_cost 2 = .ok (.iconst 4, 1) := by decide +kernel
theorem dX4_cost_3 : decode cX4_cost 3 = .ok (.invokestatic 60, 3) := by decide +kernel
theorem dX4_cost_6 : decode cX4_cost 6 = .ok (.ifCond .eq 13, 3) := by decide +kernel
theorem dX4_cost_9 : decode cX4_cost 9 = .ok (.iload_n 2, 1) := by decide +kernel
theorem dX4_cost_10 : decode cX4_cost 10 = .ok (.iconst 0, 1) := by decide +kernel
theorem dX4_cost_11 : decode cX4_cost 11 = .ok (.ldc 76, 2) := by decide +kernel
theorem dX4_cost_13 : decode cX4_cost 13 = .ok (.invokestatic 60, 3) := by decide +kernel
theorem dX4_cost_16 : decode cX4_cost 16 = .ok (.ifCond .ne 6, 3) := by decide +kernel
theorem dX4_cost_19 : decode cX4_cost 19 = .ok (.bipush (-2), 2) := by decide +kernel
theorem dX4_cost_21 : decode cX4_cost 21 = .ok (.ireturn, 1) := by decide +kernel
theorem dX4_cost_22 : decode cX4_cost 22 = .ok (.aload_n 0, 1) := by decide +kernel
theorem dX4_cost_23 : decode cX4_cost 23 = .ok (.getfield 20, 3) := by decide +kernel
theorem dX4_cost_26 : decode cX4_cost 26 = .ok (.iload_n 1, 1) := by decide +kernel
theorem dX4_cost_27 : decode cX4_cost 27 = .ok (.laload, 1) := by decide +kernel
theorem dX4_cost_28 : decode cX4_cost 28 = .ok (.l2i, 1) := by decide +kernel
theorem dX4_cost_29 : decode cX4_cost 29 = .ok (.istore_n 3, 1) := by decide +kernel
theorem dX4_cost_30 : decode cX4_cost 30 = .ok (.aload_n 0, 1) := by decide +kernel
theorem dX4_cost_31 : decode cX4_cost 31 = .ok (.getfield 20, 3) := by decide +kernel
theorem dX4_cost_34 : decode cX4_cost 34 = .ok (.iload_n 1, 1) := by decide +kernel
theorem dX4_cost_35 : decode cX4_cost 35 = .ok (.iload_n 2, 1) := by decide +kernel
theorem dX4_cost_36 : decode cX4_cost 36 = .ok (.i2l, 1) := by decide +kernel
theorem dX4_cost_37 : decode cX4_cost 37 = .ok (.lastore, 1) := by decide +kernel
theorem dX4_cost_38 : decode cX4_cost 38 = .ok (.aload_n 0, 1) := by decide +kernel
theorem dX4_cost_39 : decode cX4_cost 39 = .ok (.iconst 0, 1) := by decide +kernel
theorem dX4_cost_40 : decode cX4_cost 40 = .ok (.putfield 68, 3) := by decide +kernel
theorem dX4_cost_43 : decode cX4_cost 43 = .ok (.iload_n 3, 1) := by decide +kernel
theorem dX4_cost_44 : decode cX4_cost 44 = .ok (.ireturn, 1) := by decide +kernel
set_option maxRecDepth 20000 in
theorem ggX4_count_X4_in : GoodIn wsX4_count wsX4_in := goodIn_r _ [6] rfl (by decide +kernel)
set_option maxRecDepth 20000 in
theorem gX4_count_X4_in : GoodIn wsX4_count (va_wsS RX4 60 yX4_in wsX4_in) := goodIn_app (goodIn_of _ (by decide +kernel)) ggX4_count_X4_in
theorem dX4_count_0 : decode cX4_count 0 = .ok (.iload_n 1, 1) := by decide +kernel
theorem dX4_count_1 : decode cX4_count 1 = .ok (.iconst 0, 1) := by decide +kernel
theorem dX4_count_2 : decode cX4_count 2 = .ok (.bipush 24, 2) := by decide +kernel
theorem dX4_count_4 : decode cX4_count 4 = .ok (.invokestatic 60, 3) := by decide +kernel
theorem dX4_count_7 : decode cX4_count 7 = .ok (.ifCond .ne 6, 3) := by decide +kernel
theorem dX4_count_10 : decode cX4_count 10 = .ok (.bipush (-2), 2) := by decide +kernel
theorem dX4_count_12 : decode cX4_count 12 = .ok (.ireturn, 1) := by decide +kernel
theorem dX4_count_13 : decode cX4_count 13 = .ok (.aload_n 0, 1) := by decide +kernel
theorem dX4_count_14 : decode cX4_count 14 = .ok (.getfield 77, 3) := by decide +kernel
theorem dX4_count_17 : decode cX4_count 17 = .ok (.istore_n 2, 1) := by decide +kernel
theorem dX4_count_18 : decode cX4_count 18 = .ok (.aload_n 0, 1) := by decide +kernel
theorem dX4_count_19 : decode cX4_count 19 = .ok (.iload_n 1, 1) := by decide +kernel
theorem dX4_count_20 : decode cX4_count 20 = .ok (.putfield 77, 3) := by decide +kernel
theorem dX4_count_23 : decode cX4_count 23 = .ok (.aload_n 0, 1) := by decide +kernel
theorem dX4_count_24 : decode cX4_count 24 = .ok (.iconst 0, 1) := by decide +kernel
theorem dX4_count_25 : decode cX4_count 25 = .ok (.putfield 68, 3) := by decide +kernel
theorem dX4_count_28 : decode cX4_count 28 = .ok (.iload_n 2, 1) := by decide +kernel
theorem dX4_count_29 : decode cX4_count 29 = .ok (.ireturn, 1) := by decide +kernel
set_option maxRecDepth 20000 in
theorem ggX4_size_X4_in : GoodIn wsX4_size wsX4_in := goodIn_r _ [7] rfl (by decide +kernel)
set_option maxRecDepth 20000 in
theorem gX4_size_X4_in : GoodIn wsX4_size (va_wsS RX4 60 yX4_in wsX4_in) := goodIn_app (goodIn_of _ (by decide +kernel)) ggX4_size_X4_in
