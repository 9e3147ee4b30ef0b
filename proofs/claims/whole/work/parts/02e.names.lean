theorem dX3_cost_36 : decode cX3_cost 36 = .ok (.istore_n 3, 1) := by decide +kernel
theorem dX3_cost_37 : decode cX3_cost 37 = .ok (.aload_n 0, 1) := by decide +kernel
theorem dX3_cost_38 : decode cX3_cost 38 = .ok (.getfield 18, 3) := by decide +kernel
theorem dX3_cost_41 : decode cX3_cost 41 = .ok (.getfield 74, 3) := by decide +kernel
theorem dX3_cost_44 : decode cX3_cost 44 = .ok (.iload_n 1, 1) := by decide +kernel
theorem dX3_cost_45 : decode cX3_cost 45 = .ok (.iload_n 2, 1) := by decide +kernel
theorem dX3_cost_46 : decode cX3_cost 46 = .ok (.iastore, 1) := by decide +kernel
theorem dX3_cost_47 : decode cX3_cost 47 = .ok (.iload_n 3, 1) := by decide +kernel
theorem dX3_cost_48 : decode cX3_cost 48 = .ok (.ireturn, 1) := by decide +kernel
set_option maxRecDepth 20000 in
theorem ggX3_count_X3_isWithin : GoodIn wsX3_count wsX3_isWithin := goodIn_r _ [7] rfl (by decide +kernel)
set_option maxRecDepth 20000 in
theorem gX3_count_X3_isWithin : GoodIn wsX3_count (va_wsS RX3 62 yX3_isWithin wsX3_isWithin) := goodIn_app (goodIn_of _ (by decide +kernel)) ggX3_count_X3_isWithin
theorem dX3_count_0 : decode cX3_count 0 = .ok (.iload_n 1, 1) := by decide +kernel
theorem dX3_count_1 : decode cX3_count 1 = .ok (.iconst 0, 1) := by decide +kernel
theorem dX3_count_2 : decode cX3_count 2 = .ok (.bipush 24, 2) := by decide +kernel
theorem dX3_count_4 : decode cX3_count 4 = .ok (.invokestatic 62, 3) := by decide +kernel
theorem dX3_count_7 : decode cX3_count 7 = .ok (.ifCond .ne 6, 3) := by decide +kernel
theorem dX3_count_10 : decode cX3_count 10 = .ok (.bipush (-2), 2) := by decide +kernel
theorem dX3_count_12 : decode cX3_count 12 = .ok (.ireturn, 1) := by decide +kernel
theorem dX3_count_13 : decode cX3_count 13 = .ok (.aload_n 0, 1) := by decide +kernel
theorem dX3_count_14 : decode cX3_count 14 = .ok (.iconst 0, 1) := by decide +kernel
theorem dX3_count_15 : decode cX3_count 15 = .ok (.putfield 38, 3) := by decide +kernel
theorem dX3_count_18 : decode cX3_count 18 = .ok (.aload_n 0, 1) := by decide +kernel
theorem dX3_count_19 : decode cX3_count 19 = .ok (.getfield 18, 3) := by decide +kernel
theorem dX3_count_22 : decode cX3_count 22 = .ok (.getfield 78, 3) := by decide +kernel
theorem dX3_count_25 : decode cX3_count 25 = .ok (.istore_n 2, 1) := by decide +kernel
theorem dX3_count_26 : decode cX3_count 26 = .ok (.aload_n 0, 1) := by decide +kernel
theorem dX3_count_27 : decode cX3_count 27 = .ok (.getfield 18, 3) := by decide +kernel
theorem dX3_count_30 : decode cX3_count 30 = .ok (.iload_n 1, 1) := by decide +kernel
theorem dX3_count_31 : decode cX3_count 31 = .ok (.putfield 78, 3) := by decide +kernel
theorem dX3_count_34 : decode cX3_count 34 = .ok (.iload_n 2, 1) := by decide +kernel
theorem dX3_count_35 : decode cX3_count 35 = .ok (.ireturn, 1) := by decide +kernel
set_option maxRecDepth 20000 in
theorem ggX3_size_X3_isWithin : GoodIn wsX3_size wsX3_isWithin := goodIn_r _ [8] rfl (by decide +kernel)
set_option maxRecDepth 20000 in
theorem gX3_size_X3_isWithin : GoodIn wsX3_size (va_wsS RX3 62 yX3_isWithin wsX3_isWithin) := goodIn_app (goodIn_of _ (by decide +kernel)) ggX3_size_X3_isWithin
theorem dX3_size_0 : decode cX3_size 0 = .ok (.iload_n 1, 1) := by decide +kernel
theorem dX3_size_1 : decode cX3_size 1 = .ok (.ifCond .ne 38, 3) := by decide +kernel
theorem dX3_size_4 : decode cX3_size 4 = .ok (.iload_n 2, 1) := by decide +kernel
theorem dX3_size_5 : decode cX3_size 5 = .ok (.bipush 100, 2) := by decide +kernel
theorem dX3_size_7 : decode cX3_size 7 = .ok (.sipush 5000, 3) := by decide +kernel
theorem dX3_size_10 : decode cX3_size 10 = .ok (.invokestatic 62, 3) := by decide +kernel
theorem dX3_size_13 : decode cX3_size 13 = .ok (.ifCond .eq 26, 3) := by decide +kernel
theorem dX3_size_16 : decode cX3_size 16 = .ok (.aload_n 0, 1) := by decide +kernel
theorem dX3_size_17 : decode cX3_size 17 = .ok (.iconst 0, 1) := by decide +kernel
theorem dX3_size_18 : decode cX3_size 18 = .ok (.putfield 38, 3) := by decide +kernel
theorem dX3_size_21 : decode cX3_size 21 = .ok (.aload_n 0, 1) := by decide +kernel
theorem dX3_size_22 : decode cX3_size 22 = .ok (.getfield 18, 3) := by decide +kernel
theorem dX3_size_25 : decode cX3_size 25 = .ok (.getfield 81, 3) := by decide +kernel
theorem dX3_size_28 : decode cX3_size 28 = .ok (.istore_n 3, 1) := by decide +kernel
theorem dX3_size_29 : decode cX3_size 29 = .ok (.aload_n 0, 1) := by decide +kernel
theorem dX3_size_30 : decode cX3_size 30 = .ok (.getfield 18, 3) := by decide +kernel
theorem dX3_size_33 : decode cX3_size 33 = .ok (.iload_n 2, 1) := by decide +kernel
theorem dX3_size_34 : decode cX3_size 34 = .ok (.putfield 81, 3) := by decide +kernel
theorem dX3_size_37 : decode cX3_size 37 = .ok (.iload_n 3, 1) := by decide +kernel
theorem dX3_size_38 : decode cX3_size 38 = .ok (.ireturn, 1) := by decide +kernel
theorem dX3_size_39 : decode cX3_size 39 = .ok (.iload_n 1, 1) := by decide +kernel
theorem dX3_size_40 : decode cX3_size 40 = .ok (.iconst 1, 1) := by decide +kernel
theorem dX3_size_41 : decode cX3_size 41 = .ok (.if_icmp .ne 36, 3) := by decide +kernel
theorem dX3_size_44 : decode cX3_size 44 = .ok (.iload_n 2, 1) := by decide +kernel
theorem dX3_size_45 : decode cX3_size 45 = .ok (.iconst 1, 1) := by decide +kernel
theorem dX3_size_46 : decode cX3_size 46 = .ok (.bipush 8, 2) := by decide +kernel
theorem dX3_size_48 : decode cX3_size 48 = .ok (.invokestatic 62, 3) := by decide +kernel
theorem dX3_size_51 : decode cX3_size 51 = .ok (.ifCond .eq 26, 3) := by decide +kernel
theorem dX3_size_54 : decode cX3_size 54 = .ok (.aload_n 0, 1) := by decide +kernel
theorem dX3_size_55 : decode cX3_size 55 = .ok (.iconst 0, 1) := by decide +kernel
theorem dX3_size_56 : decode cX3_size 56 = .ok (.putfield 38, 3) := by decide +kernel
theorem dX3_size_59 : decode cX3_size 59 = .ok (.aload_n 0, 1) := by decide +kernel
theorem dX3_size_60 : decode cX3_size 60 = .ok (.getfield 18, 3) := by decide +kernel
theorem dX3_size_63 : decode cX3_size 63 = .ok (.getfield 84, 3) := by decide +kernel
theorem dX3_size_66 : decode cX3_size 66 = .ok (.istore_n 3, 1) := by decide +kernel
theorem dX3_size_67 : decode cX3_size 67 = .ok (.aload_n 0, 1) := by decide +kernel
theorem dX3_size_68 : decode cX3_size 68 = .ok (.getfield 18, 3) := by decide +kernel
theorem dX3_size_71 : decode cX3_size 71 = .ok (.iload_n 2, 1) := by decide +kernel
theorem dX3_size_72 : decode cX3_size 72 = .ok (.putfield 84, 3) := by decide +kernel
theorem dX3_size_75 : decode cX3_size 75 = .ok (.iload_n 3, 1) := by decide +kernel
theorem dX3_size_76 : decode cX3_size 76 = .ok (.ireturn, 1) := by decide +kernel
theorem dX3_size_77 : decode cX3_size 77 = .ok (.bipush (-2), 2) := by decide +kernel
theorem dX3_size_79 : decode cX3_size 79 = .ok (.ireturn, 1) := by decide +kernel
theorem dX3_bars_0 : decode cX3_bars 0 = .ok (.aload_n 0, 1) := by decide +kernel
theorem dX3_bars_1 : decode cX3_bars 1 = .ok (.getfield 18, 3) := by decide +kernel
theorem dX3_bars_4 : decode cX3_bars 4 = .ok (.getfield 46, 3) := by decide +kernel
theorem dX3_bars_7 : decode cX3_bars 7 = .ok (.ireturn, 1) := by decide +kernel
set_option maxRecDepth 20000 in
theorem ggX3_lines_X3_findBest : GoodIn wsX3_lines wsX3_findBest := goodIn_r _ [8, 9, 10, 1, 11, 12, 13, 14, 15, 16, 17, 18, 19, 20, 21, 22, 23, 24, 25, 26, 27, 28, 29, 30, 31, 32, 33, 34, 35, 36, 37, 38, 39, 40, 41, 42, 43, 44, 45, 46, 47, 48, 49, 50, 51, 52, 53, 54, 55, 56, 57, 58, 59, 60, 61, 62, 63, 64, 65, 66, 67, 68, 69, 70, 71, 72, 73, 74, 75, 76, 77, 78, 79, 80, 81, 82, 83, 84, 85, 86, 87, 88, 89, 90, 91, 92, 93, 94, 95, 96, 97, 98, 99, 100, 101, 102, 103, 104, 105, 106, 107, 108, 109, 110, 111, 112, 113, 114, 115, 116, 117, 118, 119, 120, 121, 122, 123, 124, 125, 126, 127, 128, 129, 130, 131, 132, 133, 134, 135, 136, 145, 146, 147, 148, 149, 150, 151, 152, 153, 154, 155, 156, 157, 158, 159, 137, 138, 139, 140, 141, 142, 143, 144] rfl (by decide +kernel)
set_option maxRecDepth 20000 in
theorem gX3_lines_X3_findBest : GoodIn wsX3_lines (wsV RX3 87 RX3 yX3_findBest wsX3_findBest) := goodIn_app (goodIn_of _ (by decide +kernel)) ggX3_lines_X3_findBest
theorem dX3_lines_0 : decode cX3_lines 0 = .ok (.aload_n 0, 1) := by decide +kernel
theorem dX3_lines_1 : decode cX3_lines 1 = .ok (.invokevirtual 87, 3) := by decide +kernel
theorem dX3_lines_4 : decode cX3_lines 4 = .ok (.aload_n 0, 1) := by decide +kernel
theorem dX3_lines_5 : decode cX3_lines 5 = .ok (.getfield 34, 3) := by decide +kernel
theorem dX3_lines_8 : decode cX3_lines 8 = .ok (.getfield 90, 3) := by decide +kernel
theorem dX3_lines_11 : decode cX3_lines 11 = .ok (.ifCond .eq 13, 3) := by decide +kernel
theorem dX3_lines_14 : decode cX3_lines 14 = .ok (.aload_n 0, 1) := by decide +kernel
theorem dX3_lines_15 : decode cX3_lines 15 = .ok (.getfield 34, 3) := by decide +kernel
theorem dX3_lines_18 : decode cX3_lines 18 = .ok (.getfield 93, 3) := by decide +kernel
theorem dX3_lines_21 : decode cX3_lines 21 = .ok (.goto 5, 3) := by decide +kernel
theorem dX3_lines_24 : decode cX3_lines 24 = .ok (.bipush (-3), 2) := by decide +kernel
theorem dX3_lines_26 : decode cX3_lines 26 = .ok (.ireturn, 1) := by decide +kernel
set_option maxRecDepth 20000 in
theorem ggX3_pages_X3_findBest : GoodIn wsX3_pages wsX3_findBest := goodIn_r _ [8, 9, 10, 1, 11, 12, 13, 14, 15, 16, 17, 18, 19, 20, 21, 22, 23, 24, 25, 26, 27, 28, 29, 30, 31, 32, 33, 34, 35, 36, 37, 38, 39, 40, 41, 42, 43, 44, 45, 46, 47, 48, 49, 50, 51, 52, 53, 54, 55, 56, 57, 58, 59, 60, 61, 62, 63, 64, 65, 66, 67, 68, 69, 70, 71, 72, 73, 74, 75, 76, 77, 78, 79, 80, 81, 82, 83, 84, 85, 86, 87, 88, 89, 90, 91, 92, 93, 94, 95, 96, 97, 98, 99, 100, 101, 102, 103, 104, 105, 106, 107, 108, 109, 110, 111, 112, 113, 114, 115, 116, 117, 118, 119, 120, 121, 122, 123, 124, 125, 126, 127, 128, 129, 130, 131, 132, 133, 134, 135, 136, 145, 146, 147, 148, 149, 150, 151, 152, 153, 154, 155, 156, 157, 158, 159, 137, 138, 139, 140, 141, 142, 143, 144] rfl (by decide +kernel)
set_option maxRecDepth 20000 in
theorem gX3_pages_X3_findBest : GoodIn wsX3_pages (wsV RX3 87 RX3 yX3_findBest wsX3_findBest) := goodIn_app (goodIn_of _ (by decide +kernel)) ggX3_pages_X3_findBest
theorem dX3_pages_0 : decode cX3_pages 0 = .ok (.aload_n 0, 1) := by decide +kernel
theorem dX3_pages_1 : decode cX3_pages 1 = .ok (.invokevirtual 87, 3) := by decide +kernel
theorem dX3_pages_4 : decode cX3_pages 4 = .ok (.aload_n 0, 1) := by decide +kernel
theorem dX3_pages_5 : decode cX3_pages 5 = .ok (.getfield 34, 3) := by decide +kernel
theorem dX3_pages_8 : decode cX3_pages 8 = .ok (.getfield 90, 3) := by decide +kernel
theorem dX3_pages_11 : decode cX3_pages 11 = .ok (.ifCond .eq 13, 3) := by decide +kernel
theorem dX3_pages_14 : decode cX3_pages 14 = .ok (.aload_n 0, 1) := by decide +kernel
theorem dX3_pages_15 : decode cX3_pages 15 = .ok (.getfield 34, 3) := by decide +kernel
theorem dX3_pages_18 : decode cX3_pages 18 = .ok (.getfield 96, 3) := by decide +kernel
theorem dX3_pages_21 : decode cX3_pages 21 = .ok (.goto 5, 3) := by decide +kernel
theorem dX3_pages_24 : decode cX3_pages 24 = .ok (.bipush (-3), 2) := by decide +kernel
theorem dX3_pages_26 : decode cX3_pages 26 = .ok (.ireturn, 1) := by decide +kernel
set_option maxRecDepth 20000 in
theorem ggX3_sum_X3_findBest : GoodIn wsX3_sum wsX3_findBest := goodIn_r _ [9, 10, 11, 1, 12, 13, 14, 15, 16, 17, 18, 19, 20, 21, 22, 23, 24, 25, 26, 27, 28, 29, 30, 31, 32, 33, 34, 35, 36, 37, 38, 39, 40, 41, 42, 43, 44, 45, 46, 47, 48, 49, 50, 51, 52, 53, 54, 55, 56, 57, 58, 59, 60, 61, 62, 63, 64, 65, 66, 67, 68, 69, 70, 71, 72, 73, 74, 75, 76, 77, 78, 79, 80, 81, 82, 83, 84, 85, 86, 87, 88, 89, 90, 91, 92, 93, 94, 95, 96, 97, 98, 99, 100, 101, 102, 103, 104, 105, 106, 107, 108, 109, 110, 111, 112, 113, 114, 115, 116, 117, 118, 119, 120, 121, 122, 123, 124, 125, 126, 127, 128, 129, 130, 131, 132, 133, 134, 135, 136, 137, 146, 147, 148, 149, 150, 151, 152, 153, 154, 155, 156, 157, 158, 159, 160, 138, 139, 140, 141, 142, 143, 144, 145] rfl (by decide +kernel)
set_option maxRecDepth 20000 in
theorem gX3_sum_X3_findBest : GoodIn wsX3_sum (wsV RX3 87 RX3 yX3_findBest wsX3_findBest) := goodIn_app (goodIn_of _ (by decide +kernel)) ggX3_sum_X3_findBest
theorem dX3_sum_0 : decode cX3_sum 0 = .ok (.aload_n 0, 1) := by decide +kernel
theorem dX3_sum_1 : decode cX3_sum 1 = .ok (.invokevirtual 87, 3) := by decide +kernel
theorem dX3_sum_4 : decode cX3_sum 4 = .ok (.aload_n 0, 1) := by decide +kernel
theorem dX3_sum_5 : decode cX3_sum 5 = .ok (.getfield 34, 3) := by decide +kernel
theorem dX3_sum_8 : decode cX3_sum 8 = .ok (.getfield 90, 3) := by decide +kernel
theorem dX3_sum_11 : decode cX3_sum 11 = .ok (.ifCond .eq 13, 3) := by decide +kernel
theorem dX3_sum_14 : decode cX3_sum 14 = .ok (.aload_n 0, 1) := by decide +kernel
theorem dX3_sum_15 : decode cX3_sum 15 = .ok (.getfield 34, 3) := by decide +kernel
theorem dX3_sum_18 : decode cX3_sum 18 = .ok (.getfield 99, 3) := by decide +kernel
theorem dX3_sum_21 : decode cX3_sum 21 = .ok (.goto 6, 3) := by decide +kernel
theorem dX3_sum_24 : decode cX3_sum 24 = .ok (.ldc2_w 103, 3) := by decide +kernel
theorem dX3_sum_27 : decode cX3_sum 27 = .ok (.lreturn, 1) := by decide +kernel
set_option maxRecDepth 20000 in
theorem ggX3_line_X3_findBest : GoodIn wsX3_line wsX3_findBest := goodIn_r _ [12, 13, 14, 1, 7, 15, 16, 17, 18, 19, 20, 21, 22, 23, 24, 25, 26, 27, 28, 29, 30, 31, 32, 33, 34, 35, 36, 37, 38, 39, 40, 41, 42, 43, 44, 45, 46, 47, 48, 49, 50, 51, 52, 53, 54, 55, 56, 57, 58, 59, 60, 61, 62, 63, 64, 65, 66, 67, 68, 69, 70, 71, 72, 73, 74, 75, 76, 77, 78, 79, 80, 81, 82, 83, 84, 85, 86, 87, 88, 89, 90, 91, 92, 93, 94, 95, 96, 97, 98, 99, 100, 101, 102, 103, 104, 105, 106, 107, 108, 109, 110, 111, 112, 113, 114, 115, 116, 117, 118, 119, 120, 121, 122, 123, 124, 125, 126, 127, 128, 129, 130, 131, 132, 133, 134, 135, 144, 145, 146, 147, 156, 157, 158, 159, 160, 161, 162, 163, 164, 165, 166, 167, 168, 169, 170, 148, 149, 150, 151, 152, 153, 154, 155] rfl (by decide +kernel)
set_option maxRecDepth 20000 in
theorem gX3_line_X3_findBest : GoodIn wsX3_line (wsV RX3 87 RX3 yX3_findBest wsX3_findBest) := goodIn_app (goodIn_of _ (by decide +kernel)) ggX3_line_X3_findBest
set_option maxRecDepth 20000 in
theorem ggX3_line_X3_isWithin : GoodIn wsX3_line wsX3_isWithin := goodIn_r _ [138] rfl (by decide +kernel)
set_option maxRecDepth 20000 in
theorem gX3_line_X3_isWithin : GoodIn wsX3_line (va_wsS RX3 62 yX3_isWithin wsX3_isWithin) := goodIn_app (goodIn_of _ (by decide +kernel)) ggX3_line_X3_isWithin
set_option maxRecDepth 20000 in
theorem ggX3_line_X2_lastBar : GoodIn wsX3_line wsX2_lastBar := goodIn_r _ [142, 117, 148, 149, 150, 151, 152, 153, 154, 155] rfl (by decide +kernel)
set_option maxRecDepth 20000 in
theorem gX3_line_X2_lastBar : GoodIn wsX3_line (wsV RX3 108 RX2 yX2_lastBar wsX2_lastBar) := goodIn_app (goodIn_of _ (by decide +kernel)) ggX3_line_X2_lastBar
set_option maxRecDepth 20000 in
theorem ggX3_line_X0_spare : GoodIn wsX3_line wsX0_spare := goodIn_r _ [65, 61, 66, 67, 68, 38, 69, 70, 156, 157, 158, 159, 160, 161, 162, 163] rfl (by decide +kernel)
set_option maxRecDepth 20000 in
theorem gX3_line_X0_spare : GoodIn wsX3_line (wsV RX3 115 RX0 yX0_spare wsX0_spare) := goodIn_app (goodIn_of _ (by decide +kernel)) ggX3_line_X0_spare
theorem dX3_line_0 : decode cX3_line 0 = .ok (.aload_n 0, 1) := by decide +kernel
theorem dX3_line_1 : decode cX3_line 1 = .ok (.invokevirtual 87, 3) := by decide +kernel
theorem dX3_line_4 : decode cX3_line 4 = .ok (.aload_n 0, 1) := by decide +kernel
theorem dX3_line_5 : decode cX3_line 5 = .ok (.getfield 34, 3) := by decide +kernel
theorem dX3_line_8 : decode cX3_line 8 = .ok (.getfield 90, 3) := by decide +kernel
theorem dX3_line_11 : decode cX3_line 11 = .ok (.ifCond .ne 6, 3) := by decide +kernel
theorem dX3_line_14 : decode cX3_line 14 = .ok (.bipush (-3), 2) := by decide +kernel
theorem dX3_line_16 : decode cX3_line 16 = .ok (.ireturn, 1) := by decide +kernel
theorem dX3_line_17 : decode cX3_line 17 = .ok (.iload_n 1, 1) := by decide +kernel
theorem dX3_line_18 : decode cX3_line 18 = .ok (.iconst 0, 1) := by decide +kernel
theorem dX3_line_19 : decode cX3_line 19 = .ok (.aload_n 0, 1) := by decide +kernel
theorem dX3_line_20 : decode cX3_line 20 = .ok (.getfield 34, 3) := by decide +kernel
theorem dX3_line_23 : decode cX3_line 23 = .ok (.getfield 93, 3) := by decide +kernel
theorem dX3_line_26 : decode cX3_line 26 = .ok (.iconst 1, 1) := by decide +kernel
theorem dX3_line_27 : decode cX3_line 27 = .ok (.isub, 1) := by decide +kernel
theorem dX3_line_28 : decode cX3_line 28 = .ok (.invokestatic 62, 3) := by decide +kernel
theorem dX3_line_31 : decode cX3_line 31 = .ok (.ifCond .ne 5, 3) := by decide +kernel
theorem dX3_line_34 : decode cX3_line 34 = .ok (.iconst (-1), 1) := by decide +kernel
theorem dX3_line_35 : decode cX3_line 35 = .ok (.ireturn, 1) := by decide +kernel
theorem dX3_line_36 : decode cX3_line 36 = .ok (.iload_n 2, 1) := by decide +kernel
theorem dX3_line_37 : decode cX3_line 37 = .ok (.tableswitch 88 0 3 #[31, 41, 50, 60], 31) := by decide +kernel
theorem dX3_line_68 : decode cX3_line 68 = .ok (.aload_n 0, 1) := by decide +kernel
theorem dX3_line_69 : decode cX3_line 69 = .ok (.getfield 34, 3) := by decide +kernel
theorem dX3_line_72 : decode cX3_line 72 = .ok (.getfield 105, 3) := by decide +kernel
theorem dX3_line_75 : decode cX3_line 75 = .ok (.iload_n 1, 1) := by decide +kernel
theorem dX3_line_76 : decode cX3_line 76 = .ok (.iaload, 1) := by decide +kernel
theorem dX3_line_77 : decode cX3_line 77 = .ok (.ireturn, 1) := by decide +kernel
theorem dX3_line_78 : decode cX3_line 78 = .ok (.aload_n 0, 1) := by decide +kernel
theorem dX3_line_79 : decode cX3_line 79 = .ok (.getfield 34, 3) := by decide +kernel
theorem dX3_line_82 : decode cX3_line 82 = .ok (.iload_n 1, 1) := by decide +kernel
theorem dX3_line_83 : decode cX3_line 83 = .ok (.invokevirtual 108, 3) := by decide +kernel
theorem dX3_line_86 : decode cX3_line 86 = .ok (.ireturn, 1) := by decide +kernel
theorem dX3_line_87 : decode cX3_line 87 = .ok (.aload_n 0, 1) := by decide +kernel
theorem dX3_line_88 : decode cX3_line 88 = .ok (.getfield 34, 3) := by decide +kernel
theorem dX3_line_91 : decode cX3_line 91 = .ok (.getfield 112, 3) := by decide +kernel
theorem dX3_line_94 : decode cX3_line 94 = .ok (.iload_n 1, 1) := by decide +kernel
theorem dX3_line_95 : decode cX3_line 95 = .ok (.iaload, 1) := by decide +kernel
theorem dX3_line_96 : decode cX3_line 96 = .ok (.ireturn, 1) := by decide +kernel
theorem dX3_line_97 : decode cX3_line 97 = .ok (.ldc 73, 2) := by decide +kernel
theorem dX3_line_99 : decode cX3_line 99 = .ok (.aload_n 0, 1) := by decide +kernel
theorem dX3_line_100 : decode cX3_line 100 = .ok (.getfield 18, 3) := by decide +kernel
theorem dX3_line_103 : decode cX3_line 103 = .ok (.aload_n 0, 1) := by decide +kernel
theorem dX3_line_104 : decode cX3_line 104 = .ok (.getfield 34, 3) := by decide +kernel
theorem dX3_line_107 : decode cX3_line 107 = .ok (.getfield 105, 3) := by decide +kernel
theorem dX3_line_110 : decode cX3_line 110 = .ok (.iload_n 1, 1) := by decide +kernel
theorem dX3_line_111 : decode cX3_line 111 = .ok (.iaload, 1) := by decide +kernel
theorem dX3_line_112 : decode cX3_line 112 = .ok (.aload_n 0, 1) := by decide +kernel
theorem dX3_line_113 : decode cX3_line 113 = .ok (.getfield 34, 3) := by decide +kernel
theorem dX3_line_116 : decode cX3_line 116 = .ok (.iload_n 1, 1) := by decide +kernel
theorem dX3_line_117 : decode cX3_line 117 = .ok (.invokevirtual 108, 3) := by decide +kernel
theorem dX3_line_120 : decode cX3_line 120 = .ok (.invokevirtual 115, 3) := by decide +kernel
theorem dX3_line_123 : decode cX3_line 123 = .ok (.iadd, 1) := by decide +kernel
theorem dX3_line_124 : decode cX3_line 124 = .ok (.ireturn, 1) := by decide +kernel
theorem dX3_line_125 : decode cX3_line 125 = .ok (.bipush (-2), 2) := by decide +kernel
theorem dX3_line_127 : decode cX3_line 127 = .ok (.ireturn, 1) := by decide +kernel
set_option maxRecDepth 20000 in
theorem ggX3_page_X3_findBest : GoodIn wsX3_page wsX3_findBest := goodIn_r _ [9, 10, 11, 1, 12, 13, 14, 15, 16, 17, 18, 19, 20, 21, 22, 23, 24, 25, 26, 27, 28, 29, 30, 31, 32, 33, 34, 35, 36, 37, 38, 39, 40, 41, 42, 43, 44, 45, 46, 47, 48, 49, 50, 51, 52, 53, 54, 55, 56, 57, 58, 59, 60, 61, 62, 63, 64, 65, 66, 67, 68, 69, 70, 71, 72, 73, 74, 75, 76, 77, 78, 79, 80, 81, 82, 83, 84, 85, 86, 87, 88, 89, 90, 91, 92, 93, 94, 95, 96, 97, 98, 99, 100, 101, 102, 103, 104, 105, 106, 107, 108, 109, 110, 111, 112, 113, 114, 115, 116, 117, 118, 119, 120, 121, 122, 123, 124, 125, 126, 127, 128, 129, 130, 131, 132, 133, 151, 152, 153, 154, 163, 164, 165, 166, 167, 168, 169, 170, 171, 172, 173, 174, 175, 176, 177, 155, 156, 157, 158, 159, 160, 161, 162] rfl (by decide +kernel)
set_option maxRecDepth 20000 in
theorem gX3_page_X3_findBest : GoodIn wsX3_page (wsV RX3 87 RX3 yX3_findBest wsX3_findBest) := goodIn_app (goodIn_of _ (by decide +kernel)) ggX3_page_X3_findBest
set_option maxRecDepth 20000 in
theorem ggX3_page_X3_isWithin : GoodIn wsX3_page wsX3_isWithin := goodIn_r _ [136] rfl (by decide +kernel)
set_option maxRecDepth 20000 in
theorem gX3_page_X3_isWithin : GoodIn wsX3_page (va_wsS RX3 62 yX3_isWithin wsX3_isWithin) := goodIn_app (goodIn_of _ (by decide +kernel)) ggX3_page_X3_isWithin
set_option maxRecDepth 20000 in
theorem ggX3_page_X2_linesOnPage : GoodIn wsX3_page wsX2_linesOnPage := goodIn_r _ [140, 116, 155, 156, 157, 158, 159, 160, 161, 162] rfl (by decide +kernel)
set_option maxRecDepth 20000 in
theorem gX3_page_X2_linesOnPage : GoodIn wsX3_page (wsV RX3 121 RX2 yX2_linesOnPage wsX2_linesOnPage) := goodIn_app (goodIn_of _ (by decide +kernel)) ggX3_page_X2_linesOnPage
set_option maxRecDepth 20000 in
theorem ggX3_page_X3_pagePrice : GoodIn wsX3_page wsX3_pagePrice := goodIn_r _ [144, 1, 3, 12, 4, 145, 146, 147, 148, 107, 149, 115, 150, 34, 35, 36, 37, 38, 39, 40, 41, 42, 43, 137, 138, 139, 140, 116, 151, 152, 153, 154, 155, 156, 157, 158, 159, 160, 161, 162, 163, 164, 165, 166, 167, 168, 169, 170] rfl (by decide +kernel)
set_option maxRecDepth 20000 in
theorem gX3_page_X3_pagePrice : GoodIn wsX3_page (wsV RX3 124 RX3 yX3_pagePrice wsX3_pagePrice) := goodIn_app (goodIn_of _ (by decide +kernel)) ggX3_page_X3_pagePrice
theorem dX3_page_0 : decode cX3_page 0 = .ok (.aload_n 0, 1) := by decide +kernel
theorem dX3_page_1 : decode cX3_page 1 = .ok (.invokevirtual 87, 3) := by decide +kernel
theorem dX3_page_4 : decode cX3_page 4 = .ok (.aload_n 0, 1) := by decide +kernel
theorem dX3_page_5 : decode cX3_page 5 = .ok (.getfield 34, 3) := by decide +kernel
theorem dX3_page_8 : decode cX3_page 8 = .ok (.getfield 90, 3) := by decide +kernel
theorem dX3_page_11 : decode cX3_page 11 = .ok (.ifCond .ne 6, 3) := by decide +kernel
theorem dX3_page_14 : decode cX3_page 14 = .ok (.bipush (-3), 2) := by decide +kernel
theorem dX3_page_16 : decode cX3_page 16 = .ok (.ireturn, 1) := by decide +kernel
theorem dX3_page_17 : decode cX3_page 17 = .ok (.iload_n 1, 1) := by decide +kernel
theorem dX3_page_18 : decode cX3_page 18 = .ok (.iconst 0, 1) := by decide +kernel
theorem dX3_page_19 : decode cX3_page 19 = .ok (.aload_n 0, 1) := by decide +kernel
theorem dX3_page_20 : decode cX3_page 20 = .ok (.getfield 34, 3) := by decide +kernel
theorem dX3_page_23 : decode cX3_page 23 = .ok (.getfield 96, 3) := by decide +kernel
theorem dX3_page_26 : decode cX3_page 26 = .ok (.iconst 1, 1) := by decide +kernel
theorem dX3_page_27 : decode cX3_page 27 = .ok (.isub, 1) := by decide +kernel
theorem dX3_page_28 : decode cX3_page 28 = .ok (.invokestatic 62, 3) := by decide +kernel
theorem dX3_page_31 : decode cX3_page 31 = .ok (.ifCond .ne 5, 3) := by decide +kernel
theorem dX3_page_34 : decode cX3_page 34 = .ok (.iconst (-1), 1) := by decide +kernel
theorem dX3_page_35 : decode cX3_page 35 = .ok (.ireturn, 1) := by decide +kernel
theorem dX3_page_36 : decode cX3_page 36 = .ok (.iload_n 2, 1) := by decide +kernel
theorem dX3_page_37 : decode cX3_page 37 = .ok (.tableswitch 52 0 2 #[27, 37, 46], 27) := by decide +kernel
theorem dX3_page_64 : decode cX3_page 64 = .ok (.aload_n 0, 1) := by decide +kernel
theorem dX3_page_65 : decode cX3_page 65 = .ok (.getfield 34, 3) := by decide +kernel
theorem dX3_page_68 : decode cX3_page 68 = .ok (.getfield 118, 3) := by decide +kernel
theorem dX3_page_71 : decode cX3_page 71 = .ok (.iload_n 1, 1) := by decide +kernel
theorem dX3_page_72 : decode cX3_page 72 = .ok (.iaload, 1) := by decide +kernel
theorem dX3_page_73 : decode cX3_page 73 = .ok (.ireturn, 1) := by decide +kernel
theorem dX3_page_74 : decode cX3_page 74 = .ok (.aload_n 0, 1) := by decide +kernel
theorem dX3_page_75 : decode cX3_page 75 = .ok (.getfield 34, 3) := by decide +kernel
theorem dX3_page_78 : decode cX3_page 78 = .ok (.iload_n 1, 1) := by decide +kernel
theorem dX3_page_79 : decode cX3_page 79 = .ok (.invokevirtual 121, 3) := by decide +kernel
theorem dX3_page_82 : decode cX3_page 82 = .ok (.ireturn, 1) := by decide +kernel
theorem dX3_page_83 : decode cX3_page 83 = .ok (.aload_n 0, 1) := by decide +kernel
theorem dX3_page_84 : decode cX3_page 84 = .ok (.iload_n 1, 1) := by decide +kernel
theorem dX3_page_85 : decode cX3_page 85 = .ok (.invokevirtual 124, 3) := by decide +kernel
theorem dX3_page_88 : decode cX3_page 88 = .ok (.ireturn, 1) := by decide +kernel
theorem dX3_page_89 : decode cX3_page 89 = .ok (.bipush (-2), 2) := by decide +kernel
theorem dX3_page_91 : decode cX3_page 91 = .ok (.ireturn, 1) := by decide +kernel
set_option maxRecDepth 20000 in
theorem ggX3_set_X0_hasBar : GoodIn wsX3_set wsX0_hasBar := goodIn_r _ [10, 11, 168, 169, 170, 171, 172, 173, 174, 175] rfl (by decide +kernel)
set_option maxRecDepth 20000 in
theorem gX3_set_X0_hasBar : GoodIn wsX3_set (wsV RX3 54 RX0 yX0_hasBar wsX0_hasBar) := goodIn_app (goodIn_of _ (by decide +kernel)) ggX3_set_X0_hasBar
set_option maxRecDepth 20000 in
theorem ggX3_set_X3_isWithin : GoodIn wsX3_set wsX3_isWithin := goodIn_r _ [15] rfl (by decide +kernel)
set_option maxRecDepth 20000 in
theorem gX3_set_X3_isWithin : GoodIn wsX3_set (va_wsS RX3 62 yX3_isWithin wsX3_isWithin) := goodIn_app (goodIn_of _ (by decide +kernel)) ggX3_set_X3_isWithin
set_option maxRecDepth 20000 in
theorem ggX3_set_X3_findBest : GoodIn wsX3_set wsX3_findBest := goodIn_r _ [19, 20, 21, 2, 1, 22, 23, 24, 25, 26, 27, 28, 29, 30, 31, 32, 33, 34, 35, 36, 37, 38, 39, 40, 41, 42, 43, 44, 9, 45, 46, 47, 48, 49, 50, 51, 52, 53, 54, 55, 56, 11, 57, 58, 59, 60, 61, 62, 63, 64, 65, 66, 67, 68, 69, 70, 71, 72, 73, 74, 75, 76, 77, 78, 79, 80, 81, 82, 83, 84, 85, 86, 87, 88, 89, 90, 91, 92, 93, 94, 95, 96, 97, 98, 99, 100, 101, 102, 103, 104, 105, 106, 107, 108, 109, 110, 111, 112, 113, 114, 115, 116, 117, 118, 119, 120, 121, 122, 123, 124, 125, 126, 127, 128, 129, 130, 131, 132, 133, 134, 135, 136, 137, 138, 139, 140, 156, 157, 158, 159, 168, 169, 170, 171, 172, 173, 174, 175, 176, 177, 178, 179, 180, 181, 182, 160, 161, 162, 163, 164, 165, 166, 167] rfl (by decide +kernel)
set_option maxRecDepth 20000 in
theorem gX3_set_X3_findBest : GoodIn wsX3_set (wsV RX3 87 RX3 yX3_findBest wsX3_findBest) := goodIn_app (goodIn_of _ (by decide +kernel)) ggX3_set_X3_findBest
set_option maxRecDepth 20000 in
theorem ggX3_set_X2_lastBar : GoodIn wsX3_set wsX2_lastBar := goodIn_r _ [144, 122, 160, 161, 162, 163, 164, 165, 166, 167] rfl (by decide +kernel)
set_option maxRecDepth 20000 in
theorem gX3_set_X2_lastBar : GoodIn wsX3_set (wsV RX3 108 RX2 yX2_lastBar wsX2_lastBar) := goodIn_app (goodIn_of _ (by decide +kernel)) ggX3_set_X2_lastBar
set_option maxRecDepth 20000 in
theorem ggX3_set_X0_setAhead : GoodIn wsX3_set wsX0_setAhead := goodIn_r _ [148, 65, 75, 61, 62, 63, 9, 64, 66, 67, 68, 69, 70, 71, 72, 73, 74, 149, 150, 151, 152, 153, 154, 155, 168, 169, 170, 171, 172, 173, 174, 175] rfl (by decide +kernel)
set_option maxRecDepth 20000 in
theorem gX3_set_X0_setAhead : GoodIn wsX3_set (wsV RX3 130 RX0 yX0_setAhead wsX0_setAhead) := goodIn_app (goodIn_of _ (by decide +kernel)) ggX3_set_X0_setAhead
theorem dX3_set_0 : decode cX3_set 0 = .ok (.aload_n 0, 1) := by decide +kernel
theorem dX3_set_1 : decode cX3_set 1 = .ok (.getfield 18, 3) := by decide +kernel
theorem dX3_set_4 : decode cX3_set 4 = .ok (.iload_n 1, 1) := by decide +kernel
theorem dX3_set_5 : decode cX3_set 5 = .ok (.invokevirtual 54, 3) := by decide +kernel
theorem dX3_set_8 : decode cX3_set 8 = .ok (.ifCond .ne 5, 3) := by decide +kernel
theorem dX3_set_11 : decode cX3_set 11 = .ok (.iconst (-1), 1) := by decide +kernel
theorem dX3_set_12 : decode cX3_set 12 = .ok (.ireturn, 1) := by decide +kernel
theorem dX3_set_13 : decode cX3_set 13 = .ok (.iload_n 2, 1) := by decide +kernel
theorem dX3_set_14 : decode cX3_set 14 = .ok (.iconst 0, 1) := by decide +kernel
theorem dX3_set_15 : decode cX3_set 15 = .ok (.iconst 2, 1) := by decide +kernel
theorem dX3_set_16 : decode cX3_set 16 = .ok (.invokestatic 62, 3) := by decide +kernel
theorem dX3_set_19 : decode cX3_set 19 = .ok (.ifCond .ne 6, 3) := by decide +kernel
theorem dX3_set_22 : decode cX3_set 22 = .ok (.bipush (-2), 2) := by decide +kernel
theorem dX3_set_24 : decode cX3_set 24 = .ok (.ireturn, 1) := by decide +kernel
theorem dX3_set_25 : decode cX3_set 25 = .ok (.aload_n 0, 1) := by decide +kernel
theorem dX3_set_26 : decode cX3_set 26 = .ok (.invokevirtual 87, 3) := by decide +kernel
theorem dX3_set_29 : decode cX3_set 29 = .ok (.aload_n 0, 1) := by decide +kernel
theorem dX3_set_30 : decode cX3_set 30 = .ok (.getfield 34, 3) := by decide +kernel
theorem dX3_set_33 : decode cX3_set 33 = .ok (.getfield 90, 3) := by decide +kernel
theorem dX3_set_36 : decode cX3_set 36 = .ok (.ifCond .ne 6, 3) := by decide +kernel
theorem dX3_set_39 : decode cX3_set 39 = .ok (.bipush (-3), 2) := by decide +kernel
theorem dX3_set_41 : decode cX3_set 41 = .ok (.ireturn, 1) := by decide +kernel
theorem dX3_set_42 : decode cX3_set 42 = .ok (.aload_n 0, 1) := by decide +kernel
theorem dX3_set_43 : decode cX3_set 43 = .ok (.getfield 34, 3) := by decide +kernel
theorem dX3_set_46 : decode cX3_set 46 = .ok (.getfield 127, 3) := by decide +kernel
theorem dX3_set_49 : decode cX3_set 49 = .ok (.iload_n 1, 1) := by decide +kernel
theorem dX3_set_50 : decode cX3_set 50 = .ok (.iaload, 1) := by decide +kernel
theorem dX3_set_51 : decode cX3_set 51 = .ok (.istore_n 3, 1) := by decide +kernel
theorem dX3_set_52 : decode cX3_set 52 = .ok (.iload_n 2, 1) := by decide +kernel
theorem dX3_set_53 : decode cX3_set 53 = .ok (.ifCond .ne 5, 3) := by decide +kernel
theorem dX3_set_56 : decode cX3_set 56 = .ok (.iload_n 3, 1) := by decide +kernel
theorem dX3_set_57 : decode cX3_set 57 = .ok (.ireturn, 1) := by decide +kernel
theorem dX3_set_58 : decode cX3_set 58 = .ok (.aload_n 0, 1) := by decide +kernel
theorem dX3_set_59 : decode cX3_set 59 = .ok (.getfield 34, 3) := by decide +kernel
theorem dX3_set_62 : decode cX3_set 62 = .ok (.getfield 105, 3) := by decide +kernel
theorem dX3_set_65 : decode cX3_set 65 = .ok (.iload_n 3, 1) := by decide +kernel
theorem dX3_set_66 : decode cX3_set 66 = .ok (.iaload, 1) := by decide +kernel
theorem dX3_set_67 : decode cX3_set 67 = .ok (.istore 4, 2) := by decide +kernel
theorem dX3_set_69 : decode cX3_set 69 = .ok (.aload_n 0, 1) := by decide +kernel
theorem dX3_set_70 : decode cX3_set 70 = .ok (.getfield 34, 3) := by decide +kernel
theorem dX3_set_73 : decode cX3_set 73 = .ok (.iload_n 3, 1) := by decide +kernel
theorem dX3_set_74 : decode cX3_set 74 = .ok (.invokevirtual 108, 3) := by decide +kernel
theorem dX3_set_77 : decode cX3_set 77 = .ok (.istore 5, 2) := by decide +kernel
theorem dX3_set_79 : decode cX3_set 79 = .ok (.aload_n 0, 1) := by decide +kernel
theorem dX3_set_80 : decode cX3_set 80 = .ok (.getfield 18, 3) := by decide +kernel
theorem dX3_set_83 : decode cX3_set 83 = .ok (.iload 4, 2) := by decide +kernel
theorem dX3_set_85 : decode cX3_set 85 = .ok (.iload 5, 2) := by decide +kernel
theorem dX3_set_87 : decode cX3_set 87 = .ok (.iload_n 1, 1) := by decide +kernel
theorem dX3_set_88 : decode cX3_set 88 = .ok (.invokevirtual 130, 3) := by decide +kernel
theorem dX3_set_91 : decode cX3_set 91 = .ok (.istore 6, 2) := by decide +kernel
theorem dX3_set_93 : decode cX3_set 93 = .ok (.iload_n 2, 1) := by decide +kernel
theorem dX3_set_94 : decode cX3_set 94 = .ok (.iconst 2, 1) := by decide +kernel
theorem dX3_set_95 : decode cX3_set 95 = .ok (.if_icmp .ne 8, 3) := by decide +kernel
theorem dX3_set_98 : decode cX3_set 98 = .ok (.iload 6, 2) := by decide +kernel
theorem dX3_set_100 : decode cX3_set 100 = .ok (.goto 20, 3) := by decide +kernel
theorem dX3_set_103 : decode cX3_set 103 = .ok (.aload_n 0, 1) := by decide +kernel
theorem dX3_set_104 : decode cX3_set 104 = .ok (.getfield 18, 3) := by decide +kernel
theorem dX3_set_107 : decode cX3_set 107 = .ok (.iload 4, 2) := by decide +kernel
theorem dX3_set_109 : decode cX3_set 109 = .ok (.iload 5, 2) := by decide +kernel
theorem dX3_set_111 : decode cX3_set 111 = .ok (.iload_n 1, 1) := by decide +kernel
theorem dX3_set_112 : decode cX3_set 112 = .ok (.iconst 1, 1) := by decide +kernel
theorem dX3_set_113 : decode cX3_set 113 = .ok (.iadd, 1) := by decide +kernel
theorem dX3_set_114 : decode cX3_set 114 = .ok (.invokevirtual 130, 3) := by decide +kernel
theorem dX3_set_117 : decode cX3_set 117 = .ok (.iload 6, 2) := by decide +kernel
theorem dX3_set_119 : decode cX3_set 119 = .ok (.isub, 1) := by decide +kernel
theorem dX3_set_120 : decode cX3_set 120 = .ok (.ireturn, 1) := by decide +kernel
set_option maxRecDepth 20000 in
theorem ggX3_ends_X0_hasBar : GoodIn wsX3_ends wsX0_hasBar := goodIn_r _ [9, 10, 153, 154, 155, 156, 157, 158, 159, 160] rfl (by decide +kernel)
set_option maxRecDepth 20000 in
theorem gX3_ends_X0_hasBar : GoodIn wsX3_ends (wsV RX3 54 RX0 yX0_hasBar wsX0_hasBar) := goodIn_app (goodIn_of _ (by decide +kernel)) ggX3_ends_X0_hasBar
set_option maxRecDepth 20000 in
theorem ggX3_ends_X3_findBest : GoodIn wsX3_ends wsX3_findBest := goodIn_r _ [15, 16, 17, 2, 1, 18, 19, 20, 21, 22, 23, 24, 25, 26, 27, 28, 29, 30, 31, 32, 33, 34, 35, 36, 37, 38, 39, 40, 8, 41, 42, 43, 44, 45, 46, 47, 48, 49, 50, 51, 52, 10, 53, 54, 55, 56, 57, 58, 59, 60, 61, 62, 63, 64, 65, 66, 67, 68, 69, 70, 71, 72, 73, 74, 75, 76, 77, 78, 79, 80, 81, 82, 83, 84, 85, 86, 87, 88, 89, 90, 91, 92, 93, 94, 95, 96, 97, 98, 99, 100, 101, 102, 103, 104, 105, 106, 107, 108, 109, 110, 111, 112, 113, 114, 115, 116, 117, 118, 119, 120, 121, 122, 123, 124, 125, 126, 127, 128, 129, 130, 131, 132, 133, 134, 135, 136, 141, 142, 143, 144, 153, 154, 155, 156, 157, 158, 159, 160, 161, 162, 163, 164, 165, 166, 167, 145, 146, 147, 148, 149, 150, 151, 152] rfl (by decide +kernel)
set_option maxRecDepth 20000 in
theorem gX3_ends_X3_findBest : GoodIn wsX3_ends (wsV RX3 87 RX3 yX3_findBest wsX3_findBest) := goodIn_app (goodIn_of _ (by decide +kernel)) ggX3_ends_X3_findBest
set_option maxRecDepth 20000 in
theorem ggX3_ends_X2_lastBar : GoodIn wsX3_ends wsX2_lastBar := goodIn_r _ [140, 118, 145, 146, 147, 148, 149, 150, 151, 152] rfl (by decide +kernel)
set_option maxRecDepth 20000 in
theorem gX3_ends_X2_lastBar : GoodIn wsX3_ends (wsV RX3 108 RX2 yX2_lastBar wsX2_lastBar) := goodIn_app (goodIn_of _ (by decide +kernel)) ggX3_ends_X2_lastBar
theorem dX3_ends_0 : decode cX3_ends 0 = .ok (.aload_n 0, 1) := by decide +kernel
theorem dX3_ends_1 : decode cX3_ends 1 = .ok (.getfield 18, 3) := by decide +kernel
theorem dX3_ends_4 : decode cX3_ends 4 = .ok (.iload_n 1, 1) := by decide +kernel
theorem dX3_ends_5 : decode cX3_ends 5 = .ok (.invokevirtual 54, 3) := by decide +kernel
theorem dX3_ends_8 : decode cX3_ends 8 = .ok (.ifCond .ne 5, 3) := by decide +kernel
theorem dX3_ends_11 : decode cX3_ends 11 = .ok (.iconst 0, 1) := by decide +kernel
theorem dX3_ends_12 : decode cX3_ends 12 = .ok (.ireturn, 1) := by decide +kernel
theorem dX3_ends_13 : decode cX3_ends 13 = .ok (.aload_n 0, 1) := by decide +kernel
theorem dX3_ends_14 : decode cX3_ends 14 = .ok (.invokevirtual 87, 3) := by decide +kernel
theorem dX3_ends_17 : decode cX3_ends 17 = .ok (.aload_n 0, 1) := by decide +kernel
theorem dX3_ends_18 : decode cX3_ends 18 = .ok (.getfield 34, 3) := by decide +kernel
theorem dX3_ends_21 : decode cX3_ends 21 = .ok (.getfield 90, 3) := by decide +kernel
theorem dX3_ends_24 : decode cX3_ends 24 = .ok (.ifCond .eq 27, 3) := by decide +kernel
theorem dX3_ends_27 : decode cX3_ends 27 = .ok (.aload_n 0, 1) := by decide +kernel
theorem dX3_ends_28 : decode cX3_ends 28 = .ok (.getfield 34, 3) := by decide +kernel
theorem dX3_ends_31 : decode cX3_ends 31 = .ok (.aload_n 0, 1) := by decide +kernel
theorem dX3_ends_32 : decode cX3_ends 32 = .ok (.getfield 34, 3) := by decide +kernel
theorem dX3_ends_35 : decode cX3_ends 35 = .ok (.getfield 127, 3) := by decide +kernel
theorem dX3_ends_38 : decode cX3_ends 38 = .ok (.iload_n 1, 1) := by decide +kernel
theorem dX3_ends_39 : decode cX3_ends 39 = .ok (.iaload, 1) := by decide +kernel
theorem dX3_ends_40 : decode cX3_ends 40 = .ok (.invokevirtual 108, 3) := by decide +kernel
theorem dX3_ends_43 : decode cX3_ends 43 = .ok (.iload_n 1, 1) := by decide +kernel
theorem dX3_ends_44 : decode cX3_ends 44 = .ok (.if_icmp .ne 7, 3) := by decide +kernel
theorem dX3_ends_47 : decode cX3_ends 47 = .ok (.iconst 1, 1) := by decide +kernel
theorem dX3_ends_48 : decode cX3_ends 48 = .ok (.goto 4, 3) := by decide +kernel
theorem dX3_ends_51 : decode cX3_ends 51 = .ok (.iconst 0, 1) := by decide +kernel
theorem dX3_ends_52 : decode cX3_ends 52 = .ok (.ireturn, 1) := by decide +kernel
set_option maxRecDepth 20000 in
theorem ggX3_badness_X0_hasBar : GoodIn wsX3_badness wsX0_hasBar := goodIn_r _ [7, 8, 43, 44, 45, 46, 47, 48, 49, 50] rfl (by decide +kernel)
set_option maxRecDepth 20000 in
theorem gX3_badness_X0_hasBar : GoodIn wsX3_badness (wsV RX3 54 RX0 yX0_hasBar wsX0_hasBar) := goodIn_app (goodIn_of _ (by decide +kernel)) ggX3_badness_X0_hasBar
set_option maxRecDepth 20000 in
theorem ggX3_badness_X0_linePrice : GoodIn wsX3_badness wsX0_linePrice := goodIn_r _ [12, 13, 14, 8, 15, 16, 17, 6, 18, 19, 20, 21, 22, 23, 24, 25, 26, 27, 28, 29, 30, 31, 32, 33, 34, 35, 36, 37, 38, 43, 44, 45, 46, 47, 48, 49, 50] rfl (by decide +kernel)
set_option maxRecDepth 20000 in
theorem gX3_badness_X0_linePrice : GoodIn wsX3_badness (wsV RX3 133 RX0 yX0_linePrice wsX0_linePrice) := goodIn_app (goodIn_of _ (by decide +kernel)) ggX3_badness_X0_linePrice
theorem dX3_badness_0 : decode cX3_badness 0 = .ok (.aload_n 0, 1) := by decide +kernel
theorem dX3_badness_1 : decode cX3_badness 1 = .ok (.getfield 18, 3) := by decide +kernel
theorem dX3_badness_4 : decode cX3_badness 4 = .ok (.iload_n 1, 1) := by decide +kernel
theorem dX3_badness_5 : decode cX3_badness 5 = .ok (.invokevirtual 54, 3) := by decide +kernel
theorem dX3_badness_8 : decode cX3_badness 8 = .ok (.ifCond .eq 19, 3) := by decide +kernel
theorem dX3_badness_11 : decode cX3_badness 11 = .ok (.aload_n 0, 1) := by decide +kernel
theorem dX3_badness_12 : decode cX3_badness 12 = .ok (.getfield 18, 3) := by decide +kernel
theorem dX3_badness_15 : decode cX3_badness 15 = .ok (.iload_n 2, 1) := by decide +kernel
theorem dX3_badness_16 : decode cX3_badness 16 = .ok (.invokevirtual 54, 3) := by decide +kernel
theorem dX3_badness_19 : decode cX3_badness 19 = .ok (.ifCond .eq 8, 3) := by decide +kernel
theorem dX3_badness_22 : decode cX3_badness 22 = .ok (.iload_n 2, 1) := by decide +kernel
theorem dX3_badness_23 : decode cX3_badness 23 = .ok (.iload_n 1, 1) := by decide +kernel
theorem dX3_badness_24 : decode cX3_badness 24 = .ok (.if_icmp .ge 7, 3) := by decide +kernel
theorem dX3_badness_27 : decode cX3_badness 27 = .ok (.ldc2_w 103, 3) := by decide +kernel
theorem dX3_badness_30 : decode cX3_badness 30 = .ok (.lreturn, 1) := by decide +kernel
theorem dX3_badness_31 : decode cX3_badness 31 = .ok (.aload_n 0, 1) := by decide +kernel
theorem dX3_badness_32 : decode cX3_badness 32 = .ok (.getfield 18, 3) := by decide +kernel
theorem dX3_badness_35 : decode cX3_badness 35 = .ok (.iload_n 1, 1) := by decide +kernel
theorem dX3_badness_36 : decode cX3_badness 36 = .ok (.iload_n 2, 1) := by decide +kernel
theorem dX3_badness_37 : decode cX3_badness 37 = .ok (.invokevirtual 133, 3) := by decide +kernel
theorem dX3_badness_40 : decode cX3_badness 40 = .ok (.lreturn, 1) := by decide +kernel
set_option maxRecDepth 20000 in
theorem ggX3_would_X0_hasBar : GoodIn wsX3_would wsX0_hasBar := goodIn_r _ [8, 9, 119, 120, 121, 122, 123, 124, 125, 126] rfl (by decide +kernel)
set_option maxRecDepth 20000 in
theorem gX3_would_X0_hasBar : GoodIn wsX3_would (wsV RX3 54 RX0 yX0_hasBar wsX0_hasBar) := goodIn_app (goodIn_of _ (by decide +kernel)) ggX3_would_X0_hasBar
set_option maxRecDepth 20000 in
theorem ggX3_would_X3_isWithin : GoodIn wsX3_would wsX3_isWithin := goodIn_r _ [13] rfl (by decide +kernel)
set_option maxRecDepth 20000 in
theorem gX3_would_X3_isWithin : GoodIn wsX3_would (va_wsS RX3 62 yX3_isWithin wsX3_isWithin) := goodIn_app (goodIn_of _ (by decide +kernel)) ggX3_would_X3_isWithin
set_option maxRecDepth 20000 in
theorem ggX3_would_X0_isMarked : GoodIn wsX3_would wsX0_isMarked := goodIn_r _ [17, 18, 119, 120, 121, 122, 123, 124, 125, 126] rfl (by decide +kernel)
set_option maxRecDepth 20000 in
theorem gX3_would_X0_isMarked : GoodIn wsX3_would (wsV RX3 66 RX0 yX0_isMarked wsX0_isMarked) := goodIn_app (goodIn_of _ (by decide +kernel)) ggX3_would_X0_isMarked
set_option maxRecDepth 20000 in
theorem ggX3_would_X0_putMark : GoodIn wsX3_would wsX0_putMark := goodIn_r _ [22, 18, 119, 120, 121, 122, 123, 124, 125, 126] rfl (by decide +kernel)
set_option maxRecDepth 20000 in
theorem gX3_would_X0_putMark : GoodIn wsX3_would (wsV RX3 69 RX0 yX0_putMark wsX0_putMark) := goodIn_app (goodIn_of _ (by decide +kernel)) ggX3_would_X0_putMark
set_option maxRecDepth 20000 in
theorem ggX3_would_X1_run : GoodIn wsX3_would wsX1_run := goodIn_r _ [27, 28, 29, 30, 31, 32, 33, 34, 35, 36, 37, 38, 26, 39, 40, 41, 42, 43, 44, 7, 45, 46, 47, 15, 16, 17, 18, 48, 49, 50, 51, 52, 9, 53, 54, 55, 56, 57, 58, 59, 60, 61, 62, 63, 64, 65, 66, 67, 68, 69, 70, 71, 72, 73, 74, 75, 76, 77, 78, 79, 80, 81, 82, 83, 84, 85, 86, 87, 88, 89, 90, 91, 92, 93, 94, 95, 96, 97, 98, 99, 100, 101, 102, 103, 104, 105, 106, 127, 128, 129, 130, 131, 132, 133, 119, 120, 121, 122, 123, 124, 125, 126] rfl (by decide +kernel)
set_option maxRecDepth 20000 in
theorem gX3_would_X1_run : GoodIn wsX3_would (wsV RX3 137 RX1 yX1_run wsX1_run) := goodIn_app (goodIn_of _ (by decide +kernel)) ggX3_would_X1_run
set_option maxRecDepth 20000 in
theorem ggX3_would_X1_foundTotal : GoodIn wsX3_would wsX1_foundTotal := goodIn_r _ [110, 33, 86, 85, 111, 112, 113, 26, 114, 32, 127, 128, 129, 130, 131, 132, 133] rfl (by decide +kernel)
set_option maxRecDepth 20000 in
theorem gX3_would_X1_foundTotal : GoodIn wsX3_would (wsV RX3 140 RX1 yX1_foundTotal wsX1_foundTotal) := goodIn_app (goodIn_of _ (by decide +kernel)) ggX3_would_X1_foundTotal
theorem dX3_would_0 : decode cX3_would 0 = .ok (.aload_n 0, 1) := by decide +kernel
theorem dX3_would_1 : decode cX3_would 1 = .ok (.getfield 18, 3) := by decide +kernel
theorem dX3_would_4 : decode cX3_would 4 = .ok (.iload_n 1, 1) := by decide +kernel
theorem dX3_would_5 : decode cX3_would 5 = .ok (.invokevirtual 54, 3) := by decide +kernel
theorem dX3_would_8 : decode cX3_would 8 = .ok (.ifCond .eq 12, 3) := by decide +kernel
theorem dX3_would_11 : decode cX3_would 11 = .ok (.iload_n 2, 1) := by decide +kernel
theorem dX3_would_12 : decode cX3_would 12 = .ok (.iconst 0, 1) := by decide +kernel
theorem dX3_would_13 : decode cX3_would 13 = .ok (.iconst 2, 1) := by decide +kernel
theorem dX3_would_14 : decode cX3_would 14 = .ok (.invokestatic 62, 3) := by decide +kernel
theorem dX3_would_17 : decode cX3_would 17 = .ok (.ifCond .ne 7, 3) := by decide +kernel
theorem dX3_would_20 : decode cX3_would 20 = .ok (.ldc2_w 103, 3) := by decide +kernel
theorem dX3_would_23 : decode cX3_would 23 = .ok (.lreturn, 1) := by decide +kernel
theorem dX3_would_24 : decode cX3_would 24 = .ok (.aload_n 0, 1) := by decide +kernel
theorem dX3_would_25 : decode cX3_would 25 = .ok (.getfield 18, 3) := by decide +kernel
theorem dX3_would_28 : decode cX3_would 28 = .ok (.iload_n 1, 1) := by decide +kernel
