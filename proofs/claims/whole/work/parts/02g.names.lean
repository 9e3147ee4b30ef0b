theorem dX4_size_0 : decode cX4_size 0 = .ok (.iload_n 1, 1) := by decide +kernel
theorem dX4_size_1 : decode cX4_size 1 = .ok (.ifCond .ne 15, 3) := by decide +kernel
theorem dX4_size_4 : decode cX4_size 4 = .ok (.iload_n 2, 1) := by decide +kernel
theorem dX4_size_5 : decode cX4_size 5 = .ok (.bipush 100, 2) := by decide +kernel
theorem dX4_size_7 : decode cX4_size 7 = .ok (.sipush 5000, 3) := by decide +kernel
theorem dX4_size_10 : decode cX4_size 10 = .ok (.invokestatic 60, 3) := by decide +kernel
theorem dX4_size_13 : decode cX4_size 13 = .ok (.goto 23, 3) := by decide +kernel
theorem dX4_size_16 : decode cX4_size 16 = .ok (.iload_n 1, 1) := by decide +kernel
theorem dX4_size_17 : decode cX4_size 17 = .ok (.iconst 1, 1) := by decide +kernel
theorem dX4_size_18 : decode cX4_size 18 = .ok (.if_icmp .ne 17, 3) := by decide +kernel
theorem dX4_size_21 : decode cX4_size 21 = .ok (.iload_n 2, 1) := by decide +kernel
theorem dX4_size_22 : decode cX4_size 22 = .ok (.iconst 1, 1) := by decide +kernel
theorem dX4_size_23 : decode cX4_size 23 = .ok (.bipush 8, 2) := by decide +kernel
theorem dX4_size_25 : decode cX4_size 25 = .ok (.invokestatic 60, 3) := by decide +kernel
theorem dX4_size_28 : decode cX4_size 28 = .ok (.ifCond .eq 7, 3) := by decide +kernel
theorem dX4_size_31 : decode cX4_size 31 = .ok (.iconst 1, 1) := by decide +kernel
theorem dX4_size_32 : decode cX4_size 32 = .ok (.goto 4, 3) := by decide +kernel
theorem dX4_size_35 : decode cX4_size 35 = .ok (.iconst 0, 1) := by decide +kernel
theorem dX4_size_36 : decode cX4_size 36 = .ok (.istore_n 3, 1) := by decide +kernel
theorem dX4_size_37 : decode cX4_size 37 = .ok (.iload_n 3, 1) := by decide +kernel
theorem dX4_size_38 : decode cX4_size 38 = .ok (.ifCond .ne 6, 3) := by decide +kernel
theorem dX4_size_41 : decode cX4_size 41 = .ok (.bipush (-2), 2) := by decide +kernel
theorem dX4_size_43 : decode cX4_size 43 = .ok (.ireturn, 1) := by decide +kernel
theorem dX4_size_44 : decode cX4_size 44 = .ok (.iload_n 1, 1) := by decide +kernel
theorem dX4_size_45 : decode cX4_size 45 = .ok (.ifCond .ne 10, 3) := by decide +kernel
theorem dX4_size_48 : decode cX4_size 48 = .ok (.aload_n 0, 1) := by decide +kernel
theorem dX4_size_49 : decode cX4_size 49 = .ok (.getfield 42, 3) := by decide +kernel
theorem dX4_size_52 : decode cX4_size 52 = .ok (.goto 7, 3) := by decide +kernel
theorem dX4_size_55 : decode cX4_size 55 = .ok (.aload_n 0, 1) := by decide +kernel
theorem dX4_size_56 : decode cX4_size 56 = .ok (.getfield 46, 3) := by decide +kernel
theorem dX4_size_59 : decode cX4_size 59 = .ok (.istore 4, 2) := by decide +kernel
theorem dX4_size_61 : decode cX4_size 61 = .ok (.aload_n 0, 1) := by decide +kernel
theorem dX4_size_62 : decode cX4_size 62 = .ok (.iload_n 1, 1) := by decide +kernel
theorem dX4_size_63 : decode cX4_size 63 = .ok (.ifCond .ne 7, 3) := by decide +kernel
theorem dX4_size_66 : decode cX4_size 66 = .ok (.iload_n 2, 1) := by decide +kernel
theorem dX4_size_67 : decode cX4_size 67 = .ok (.goto 7, 3) := by decide +kernel
theorem dX4_size_70 : decode cX4_size 70 = .ok (.aload_n 0, 1) := by decide +kernel
theorem dX4_size_71 : decode cX4_size 71 = .ok (.getfield 42, 3) := by decide +kernel
theorem dX4_size_74 : decode cX4_size 74 = .ok (.putfield 42, 3) := by decide +kernel
theorem dX4_size_77 : decode cX4_size 77 = .ok (.aload_n 0, 1) := by decide +kernel
theorem dX4_size_78 : decode cX4_size 78 = .ok (.iload_n 1, 1) := by decide +kernel
theorem dX4_size_79 : decode cX4_size 79 = .ok (.iconst 1, 1) := by decide +kernel
theorem dX4_size_80 : decode cX4_size 80 = .ok (.if_icmp .ne 7, 3) := by decide +kernel
theorem dX4_size_83 : decode cX4_size 83 = .ok (.iload_n 2, 1) := by decide +kernel
theorem dX4_size_84 : decode cX4_size 84 = .ok (.goto 7, 3) := by decide +kernel
theorem dX4_size_87 : decode cX4_size 87 = .ok (.aload_n 0, 1) := by decide +kernel
theorem dX4_size_88 : decode cX4_size 88 = .ok (.getfield 46, 3) := by decide +kernel
theorem dX4_size_91 : decode cX4_size 91 = .ok (.putfield 46, 3) := by decide +kernel
theorem dX4_size_94 : decode cX4_size 94 = .ok (.aload_n 0, 1) := by decide +kernel
theorem dX4_size_95 : decode cX4_size 95 = .ok (.iconst 0, 1) := by decide +kernel
theorem dX4_size_96 : decode cX4_size 96 = .ok (.putfield 68, 3) := by decide +kernel
theorem dX4_size_99 : decode cX4_size 99 = .ok (.iload 4, 2) := by decide +kernel
theorem dX4_size_101 : decode cX4_size 101 = .ok (.ireturn, 1) := by decide +kernel
theorem dX4_bars_0 : decode cX4_bars 0 = .ok (.aload_n 0, 1) := by decide +kernel
theorem dX4_bars_1 : decode cX4_bars 1 = .ok (.getfield 57, 3) := by decide +kernel
theorem dX4_bars_4 : decode cX4_bars 4 = .ok (.ireturn, 1) := by decide +kernel
theorem dX4_total_0 : decode cX4_total 0 = .ok (.iconst 0, 1) := by decide +kernel
theorem dX4_total_1 : decode cX4_total 1 = .ok (.istore 4, 2) := by decide +kernel
theorem dX4_total_3 : decode cX4_total 3 = .ok (.iload_n 2, 1) := by decide +kernel
theorem dX4_total_4 : decode cX4_total 4 = .ok (.istore 5, 2) := by decide +kernel
theorem dX4_total_6 : decode cX4_total 6 = .ok (.iload 5, 2) := by decide +kernel
theorem dX4_total_8 : decode cX4_total 8 = .ok (.iload_n 3, 1) := by decide +kernel
theorem dX4_total_9 : decode cX4_total 9 = .ok (.if_icmp .gt 18, 3) := by decide +kernel
theorem dX4_total_12 : decode cX4_total 12 = .ok (.iload 4, 2) := by decide +kernel
theorem dX4_total_14 : decode cX4_total 14 = .ok (.aload_n 1, 1) := by decide +kernel
theorem dX4_total_15 : decode cX4_total 15 = .ok (.iload 5, 2) := by decide +kernel
theorem dX4_total_17 : decode cX4_total 17 = .ok (.iaload, 1) := by decide +kernel
theorem dX4_total_18 : decode cX4_total 18 = .ok (.iadd, 1) := by decide +kernel
theorem dX4_total_19 : decode cX4_total 19 = .ok (.istore 4, 2) := by decide +kernel
theorem dX4_total_21 : decode cX4_total 21 = .ok (.iinc 5 1, 3) := by decide +kernel
theorem dX4_total_24 : decode cX4_total 24 = .ok (.goto (-18), 3) := by decide +kernel
theorem dX4_total_27 : decode cX4_total 27 = .ok (.iload 4, 2) := by decide +kernel
theorem dX4_total_29 : decode cX4_total 29 = .ok (.ireturn, 1) := by decide +kernel
set_option maxRecDepth 20000 in
theorem ggX4_mayBe_X4_total : GoodIn wsX4_mayBe wsX4_total := goodIn_r _ [9] rfl (by decide +kernel)
set_option maxRecDepth 20000 in
theorem gX4_mayBe_X4_total : GoodIn wsX4_mayBe (wsV RX4 80 RX4 yX4_total wsX4_total) := goodIn_app (goodIn_of _ (by decide +kernel)) ggX4_mayBe_X4_total
theorem dX4_mayBe_0 : decode cX4_mayBe 0 = .ok (.iload_n 1, 1) := by decide +kernel
theorem dX4_mayBe_1 : decode cX4_mayBe 1 = .ok (.istore_n 3, 1) := by decide +kernel
theorem dX4_mayBe_2 : decode cX4_mayBe 2 = .ok (.iload_n 3, 1) := by decide +kernel
theorem dX4_mayBe_3 : decode cX4_mayBe 3 = .ok (.iload_n 2, 1) := by decide +kernel
theorem dX4_mayBe_4 : decode cX4_mayBe 4 = .ok (.if_icmp .ge 24, 3) := by decide +kernel
theorem dX4_mayBe_7 : decode cX4_mayBe 7 = .ok (.aload_n 0, 1) := by decide +kernel
theorem dX4_mayBe_8 : decode cX4_mayBe 8 = .ok (.getfield 16, 3) := by decide +kernel
theorem dX4_mayBe_11 : decode cX4_mayBe 11 = .ok (.iconst 3, 1) := by decide +kernel
theorem dX4_mayBe_12 : decode cX4_mayBe 12 = .ok (.iload_n 3, 1) := by decide +kernel
theorem dX4_mayBe_13 : decode cX4_mayBe 13 = .ok (.imul, 1) := by decide +kernel
theorem dX4_mayBe_14 : decode cX4_mayBe 14 = .ok (.iconst 0, 1) := by decide +kernel
theorem dX4_mayBe_15 : decode cX4_mayBe 15 = .ok (.iadd, 1) := by decide +kernel
theorem dX4_mayBe_16 : decode cX4_mayBe 16 = .ok (.baload, 1) := by decide +kernel
theorem dX4_mayBe_17 : decode cX4_mayBe 17 = .ok (.ifCond .eq 5, 3) := by decide +kernel
theorem dX4_mayBe_20 : decode cX4_mayBe 20 = .ok (.iconst 0, 1) := by decide +kernel
theorem dX4_mayBe_21 : decode cX4_mayBe 21 = .ok (.ireturn, 1) := by decide +kernel
theorem dX4_mayBe_22 : decode cX4_mayBe 22 = .ok (.iinc 3 1, 3) := by decide +kernel
theorem dX4_mayBe_25 : decode cX4_mayBe 25 = .ok (.goto (-23), 3) := by decide +kernel
theorem dX4_mayBe_28 : decode cX4_mayBe 28 = .ok (.aload_n 0, 1) := by decide +kernel
theorem dX4_mayBe_29 : decode cX4_mayBe 29 = .ok (.getfield 16, 3) := by decide +kernel
theorem dX4_mayBe_32 : decode cX4_mayBe 32 = .ok (.iconst 3, 1) := by decide +kernel
theorem dX4_mayBe_33 : decode cX4_mayBe 33 = .ok (.iload_n 2, 1) := by decide +kernel
theorem dX4_mayBe_34 : decode cX4_mayBe 34 = .ok (.imul, 1) := by decide +kernel
theorem dX4_mayBe_35 : decode cX4_mayBe 35 = .ok (.iconst 1, 1) := by decide +kernel
theorem dX4_mayBe_36 : decode cX4_mayBe 36 = .ok (.iadd, 1) := by decide +kernel
theorem dX4_mayBe_37 : decode cX4_mayBe 37 = .ok (.baload, 1) := by decide +kernel
theorem dX4_mayBe_38 : decode cX4_mayBe 38 = .ok (.ifCond .eq 26, 3) := by decide +kernel
theorem dX4_mayBe_41 : decode cX4_mayBe 41 = .ok (.aload_n 0, 1) := by decide +kernel
theorem dX4_mayBe_42 : decode cX4_mayBe 42 = .ok (.getfield 16, 3) := by decide +kernel
theorem dX4_mayBe_45 : decode cX4_mayBe 45 = .ok (.iconst 3, 1) := by decide +kernel
theorem dX4_mayBe_46 : decode cX4_mayBe 46 = .ok (.iload_n 2, 1) := by decide +kernel
theorem dX4_mayBe_47 : decode cX4_mayBe 47 = .ok (.imul, 1) := by decide +kernel
theorem dX4_mayBe_48 : decode cX4_mayBe 48 = .ok (.iconst 0, 1) := by decide +kernel
theorem dX4_mayBe_49 : decode cX4_mayBe 49 = .ok (.iadd, 1) := by decide +kernel
theorem dX4_mayBe_50 : decode cX4_mayBe 50 = .ok (.baload, 1) := by decide +kernel
theorem dX4_mayBe_51 : decode cX4_mayBe 51 = .ok (.ifCond .ne 13, 3) := by decide +kernel
theorem dX4_mayBe_54 : decode cX4_mayBe 54 = .ok (.iload_n 2, 1) := by decide +kernel
theorem dX4_mayBe_55 : decode cX4_mayBe 55 = .ok (.aload_n 0, 1) := by decide +kernel
theorem dX4_mayBe_56 : decode cX4_mayBe 56 = .ok (.getfield 57, 3) := by decide +kernel
theorem dX4_mayBe_59 : decode cX4_mayBe 59 = .ok (.iconst 1, 1) := by decide +kernel
theorem dX4_mayBe_60 : decode cX4_mayBe 60 = .ok (.isub, 1) := by decide +kernel
theorem dX4_mayBe_61 : decode cX4_mayBe 61 = .ok (.if_icmp .ne 7, 3) := by decide +kernel
theorem dX4_mayBe_64 : decode cX4_mayBe 64 = .ok (.iconst 1, 1) := by decide +kernel
theorem dX4_mayBe_65 : decode cX4_mayBe 65 = .ok (.goto 4, 3) := by decide +kernel
theorem dX4_mayBe_68 : decode cX4_mayBe 68 = .ok (.iconst 0, 1) := by decide +kernel
theorem dX4_mayBe_69 : decode cX4_mayBe 69 = .ok (.istore_n 3, 1) := by decide +kernel
theorem dX4_mayBe_70 : decode cX4_mayBe 70 = .ok (.iload_n 3, 1) := by decide +kernel
theorem dX4_mayBe_71 : decode cX4_mayBe 71 = .ok (.ifCond .eq 29, 3) := by decide +kernel
theorem dX4_mayBe_74 : decode cX4_mayBe 74 = .ok (.iload_n 1, 1) := by decide +kernel
theorem dX4_mayBe_75 : decode cX4_mayBe 75 = .ok (.iload_n 2, 1) := by decide +kernel
theorem dX4_mayBe_76 : decode cX4_mayBe 76 = .ok (.if_icmp .eq 20, 3) := by decide +kernel
theorem dX4_mayBe_79 : decode cX4_mayBe 79 = .ok (.aload_n 0, 1) := by decide +kernel
theorem dX4_mayBe_80 : decode cX4_mayBe 80 = .ok (.aload_n 0, 1) := by decide +kernel
theorem dX4_mayBe_81 : decode cX4_mayBe 81 = .ok (.getfield 7, 3) := by decide +kernel
theorem dX4_mayBe_84 : decode cX4_mayBe 84 = .ok (.iload_n 1, 1) := by decide +kernel
theorem dX4_mayBe_85 : decode cX4_mayBe 85 = .ok (.iload_n 2, 1) := by decide +kernel
theorem dX4_mayBe_86 : decode cX4_mayBe 86 = .ok (.invokevirtual 80, 3) := by decide +kernel
theorem dX4_mayBe_89 : decode cX4_mayBe 89 = .ok (.aload_n 0, 1) := by decide +kernel
theorem dX4_mayBe_90 : decode cX4_mayBe 90 = .ok (.getfield 42, 3) := by decide +kernel
theorem dX4_mayBe_93 : decode cX4_mayBe 93 = .ok (.if_icmp .gt 7, 3) := by decide +kernel
theorem dX4_mayBe_96 : decode cX4_mayBe 96 = .ok (.iconst 1, 1) := by decide +kernel
theorem dX4_mayBe_97 : decode cX4_mayBe 97 = .ok (.goto 4, 3) := by decide +kernel
theorem dX4_mayBe_100 : decode cX4_mayBe 100 = .ok (.iconst 0, 1) := by decide +kernel
theorem dX4_mayBe_101 : decode cX4_mayBe 101 = .ok (.ireturn, 1) := by decide +kernel
set_option maxRecDepth 20000 in
theorem ggX4_off_X4_total : GoodIn wsX4_off wsX4_total := goodIn_r _ [7] rfl (by decide +kernel)
set_option maxRecDepth 20000 in
theorem gX4_off_X4_total : GoodIn wsX4_off (wsV RX4 80 RX4 yX4_total wsX4_total) := goodIn_app (goodIn_of _ (by decide +kernel)) ggX4_off_X4_total
theorem dX4_off_0 : decode cX4_off 0 = .ok (.aload_n 0, 1) := by decide +kernel
theorem dX4_off_1 : decode cX4_off 1 = .ok (.getfield 42, 3) := by decide +kernel
theorem dX4_off_4 : decode cX4_off 4 = .ok (.aload_n 0, 1) := by decide +kernel
theorem dX4_off_5 : decode cX4_off 5 = .ok (.aload_n 0, 1) := by decide +kernel
theorem dX4_off_6 : decode cX4_off 6 = .ok (.getfield 13, 3) := by decide +kernel
theorem dX4_off_9 : decode cX4_off 9 = .ok (.iload_n 1, 1) := by decide +kernel
theorem dX4_off_10 : decode cX4_off 10 = .ok (.iload_n 2, 1) := by decide +kernel
theorem dX4_off_11 : decode cX4_off 11 = .ok (.invokevirtual 80, 3) := by decide +kernel
theorem dX4_off_14 : decode cX4_off 14 = .ok (.isub, 1) := by decide +kernel
theorem dX4_off_15 : decode cX4_off 15 = .ok (.ireturn, 1) := by decide +kernel
set_option maxRecDepth 20000 in
theorem ggX4_isOver_X4_total : GoodIn wsX4_isOver wsX4_total := goodIn_r _ [7] rfl (by decide +kernel)
set_option maxRecDepth 20000 in
theorem gX4_isOver_X4_total : GoodIn wsX4_isOver (wsV RX4 80 RX4 yX4_total wsX4_total) := goodIn_app (goodIn_of _ (by decide +kernel)) ggX4_isOver_X4_total
theorem dX4_isOver_0 : decode cX4_isOver 0 = .ok (.aload_n 0, 1) := by decide +kernel
theorem dX4_isOver_1 : decode cX4_isOver 1 = .ok (.aload_n 0, 1) := by decide +kernel
theorem dX4_isOver_2 : decode cX4_isOver 2 = .ok (.getfield 7, 3) := by decide +kernel
theorem dX4_isOver_5 : decode cX4_isOver 5 = .ok (.iload_n 1, 1) := by decide +kernel
theorem dX4_isOver_6 : decode cX4_isOver 6 = .ok (.iload_n 2, 1) := by decide +kernel
theorem dX4_isOver_7 : decode cX4_isOver 7 = .ok (.invokevirtual 80, 3) := by decide +kernel
theorem dX4_isOver_10 : decode cX4_isOver 10 = .ok (.aload_n 0, 1) := by decide +kernel
theorem dX4_isOver_11 : decode cX4_isOver 11 = .ok (.getfield 42, 3) := by decide +kernel
theorem dX4_isOver_14 : decode cX4_isOver 14 = .ok (.if_icmp .le 7, 3) := by decide +kernel
theorem dX4_isOver_17 : decode cX4_isOver 17 = .ok (.iconst 1, 1) := by decide +kernel
theorem dX4_isOver_18 : decode cX4_isOver 18 = .ok (.goto 4, 3) := by decide +kernel
theorem dX4_isOver_21 : decode cX4_isOver 21 = .ok (.iconst 0, 1) := by decide +kernel
theorem dX4_isOver_22 : decode cX4_isOver 22 = .ok (.ireturn, 1) := by decide +kernel
set_option maxRecDepth 20000 in
theorem ggX4_costOf_X4_off : GoodIn wsX4_costOf wsX4_off := goodIn_r _ [7, 8, 9, 10, 11, 12, 6, 13, 19, 20, 21, 22, 23, 24, 25, 26, 27, 28, 29, 30, 31, 32, 33, 34, 35, 36] rfl (by decide +kernel)
set_option maxRecDepth 20000 in
theorem gX4_costOf_X4_off : GoodIn wsX4_costOf (wsV RX4 84 RX4 yX4_off wsX4_off) := goodIn_app (goodIn_of _ (by decide +kernel)) ggX4_costOf_X4_off
set_option maxRecDepth 20000 in
theorem ggX4_costOf_X4_isOver : GoodIn wsX4_costOf wsX4_isOver := goodIn_r _ [17, 18, 8, 10, 11, 12, 6, 13, 19, 20, 21, 22, 23, 24, 25, 26, 27, 28, 29, 30, 31, 32, 33, 34, 35, 36] rfl (by decide +kernel)
set_option maxRecDepth 20000 in
theorem gX4_costOf_X4_isOver : GoodIn wsX4_costOf (wsV RX4 88 RX4 yX4_isOver wsX4_isOver) := goodIn_app (goodIn_of _ (by decide +kernel)) ggX4_costOf_X4_isOver
theorem dX4_costOf_0 : decode cX4_costOf 0 = .ok (.aload_n 0, 1) := by decide +kernel
theorem dX4_costOf_1 : decode cX4_costOf 1 = .ok (.iload_n 1, 1) := by decide +kernel
theorem dX4_costOf_2 : decode cX4_costOf 2 = .ok (.iload_n 2, 1) := by decide +kernel
theorem dX4_costOf_3 : decode cX4_costOf 3 = .ok (.invokevirtual 84, 3) := by decide +kernel
theorem dX4_costOf_6 : decode cX4_costOf 6 = .ok (.i2l, 1) := by decide +kernel
theorem dX4_costOf_7 : decode cX4_costOf 7 = .ok (.lstore_n 3, 1) := by decide +kernel
theorem dX4_costOf_8 : decode cX4_costOf 8 = .ok (.aload_n 0, 1) := by decide +kernel
theorem dX4_costOf_9 : decode cX4_costOf 9 = .ok (.iload_n 1, 1) := by decide +kernel
theorem dX4_costOf_10 : decode cX4_costOf 10 = .ok (.iload_n 2, 1) := by decide +kernel
theorem dX4_costOf_11 : decode cX4_costOf 11 = .ok (.invokevirtual 88, 3) := by decide +kernel
theorem dX4_costOf_14 : decode cX4_costOf 14 = .ok (.ifCond .eq 10, 3) := by decide +kernel
theorem dX4_costOf_17 : decode cX4_costOf 17 = .ok (.aload_n 0, 1) := by decide +kernel
theorem dX4_costOf_18 : decode cX4_costOf 18 = .ok (.getfield 20, 3) := by decide +kernel
theorem dX4_costOf_21 : decode cX4_costOf 21 = .ok (.iconst 3, 1) := by decide +kernel
theorem dX4_costOf_22 : decode cX4_costOf 22 = .ok (.laload, 1) := by decide +kernel
theorem dX4_costOf_23 : decode cX4_costOf 23 = .ok (.lreturn, 1) := by decide +kernel
theorem dX4_costOf_24 : decode cX4_costOf 24 = .ok (.lload_n 3, 1) := by decide +kernel
theorem dX4_costOf_25 : decode cX4_costOf 25 = .ok (.lconst 0, 1) := by decide +kernel
theorem dX4_costOf_26 : decode cX4_costOf 26 = .ok (.lcmp, 1) := by decide +kernel
theorem dX4_costOf_27 : decode cX4_costOf 27 = .ok (.ifCond .ge 16, 3) := by decide +kernel
theorem dX4_costOf_30 : decode cX4_costOf 30 = .ok (.aload_n 0, 1) := by decide +kernel
theorem dX4_costOf_31 : decode cX4_costOf 31 = .ok (.getfield 20, 3) := by decide +kernel
theorem dX4_costOf_34 : decode cX4_costOf 34 = .ok (.iconst 0, 1) := by decide +kernel
theorem dX4_costOf_35 : decode cX4_costOf 35 = .ok (.laload, 1) := by decide +kernel
theorem dX4_costOf_36 : decode cX4_costOf 36 = .ok (.lload_n 3, 1) := by decide +kernel
theorem dX4_costOf_37 : decode cX4_costOf 37 = .ok (.lmul, 1) := by decide +kernel
theorem dX4_costOf_38 : decode cX4_costOf 38 = .ok (.lload_n 3, 1) := by decide +kernel
theorem dX4_costOf_39 : decode cX4_costOf 39 = .ok (.lmul, 1) := by decide +kernel
theorem dX4_costOf_40 : decode cX4_costOf 40 = .ok (.goto 27, 3) := by decide +kernel
theorem dX4_costOf_43 : decode cX4_costOf 43 = .ok (.iload_n 2, 1) := by decide +kernel
theorem dX4_costOf_44 : decode cX4_costOf 44 = .ok (.aload_n 0, 1) := by decide +kernel
theorem dX4_costOf_45 : decode cX4_costOf 45 = .ok (.getfield 57, 3) := by decide +kernel
theorem dX4_costOf_48 : decode cX4_costOf 48 = .ok (.iconst 1, 1) := by decide +kernel
theorem dX4_costOf_49 : decode cX4_costOf 49 = .ok (.isub, 1) := by decide +kernel
theorem dX4_costOf_50 : decode cX4_costOf 50 = .ok (.if_icmp .ne 7, 3) := by decide +kernel
theorem dX4_costOf_53 : decode cX4_costOf 53 = .ok (.lconst 0, 1) := by decide +kernel
theorem dX4_costOf_54 : decode cX4_costOf 54 = .ok (.goto 13, 3) := by decide +kernel
theorem dX4_costOf_57 : decode cX4_costOf 57 = .ok (.aload_n 0, 1) := by decide +kernel
theorem dX4_costOf_58 : decode cX4_costOf 58 = .ok (.getfield 20, 3) := by decide +kernel
theorem dX4_costOf_61 : decode cX4_costOf 61 = .ok (.iconst 4, 1) := by decide +kernel
theorem dX4_costOf_62 : decode cX4_costOf 62 = .ok (.laload, 1) := by decide +kernel
theorem dX4_costOf_63 : decode cX4_costOf 63 = .ok (.lload_n 3, 1) := by decide +kernel
theorem dX4_costOf_64 : decode cX4_costOf 64 = .ok (.lmul, 1) := by decide +kernel
theorem dX4_costOf_65 : decode cX4_costOf 65 = .ok (.lload_n 3, 1) := by decide +kernel
theorem dX4_costOf_66 : decode cX4_costOf 66 = .ok (.lmul, 1) := by decide +kernel
theorem dX4_costOf_67 : decode cX4_costOf 67 = .ok (.lreturn, 1) := by decide +kernel
theorem dX4_place_0 : decode cX4_place 0 = .ok (.iload_n 0, 1) := by decide +kernel
theorem dX4_place_1 : decode cX4_place 1 = .ok (.bipush 9, 2) := by decide +kernel
theorem dX4_place_3 : decode cX4_place 3 = .ok (.imul, 1) := by decide +kernel
theorem dX4_place_4 : decode cX4_place 4 = .ok (.iload_n 1, 1) := by decide +kernel
theorem dX4_place_5 : decode cX4_place 5 = .ok (.iadd, 1) := by decide +kernel
theorem dX4_place_6 : decode cX4_place 6 = .ok (.bipush 25, 2) := by decide +kernel
theorem dX4_place_8 : decode cX4_place 8 = .ok (.imul, 1) := by decide +kernel
theorem dX4_place_9 : decode cX4_place 9 = .ok (.iload_n 2, 1) := by decide +kernel
theorem dX4_place_10 : decode cX4_place 10 = .ok (.iadd, 1) := by decide +kernel
theorem dX4_place_11 : decode cX4_place 11 = .ok (.iconst 2, 1) := by decide +kernel
theorem dX4_place_12 : decode cX4_place 12 = .ok (.imul, 1) := by decide +kernel
theorem dX4_place_13 : decode cX4_place 13 = .ok (.iload_n 3, 1) := by decide +kernel
theorem dX4_place_14 : decode cX4_place 14 = .ok (.ifCond .eq 7, 3) := by decide +kernel
theorem dX4_place_17 : decode cX4_place 17 = .ok (.iconst 1, 1) := by decide +kernel
theorem dX4_place_18 : decode cX4_place 18 = .ok (.goto 4, 3) := by decide +kernel
theorem dX4_place_21 : decode cX4_place 21 = .ok (.iconst 0, 1) := by decide +kernel
theorem dX4_place_22 : decode cX4_place 22 = .ok (.iadd, 1) := by decide +kernel
theorem dX4_place_23 : decode cX4_place 23 = .ok (.ireturn, 1) := by decide +kernel
theorem dX4_turnAt_0 : decode cX4_turnAt 0 = .ok (.aload_n 0, 1) := by decide +kernel
theorem dX4_turnAt_1 : decode cX4_turnAt 1 = .ok (.getfield 16, 3) := by decide +kernel
theorem dX4_turnAt_4 : decode cX4_turnAt 4 = .ok (.iconst 3, 1) := by decide +kernel
theorem dX4_turnAt_5 : decode cX4_turnAt 5 = .ok (.iload_n 1, 1) := by decide +kernel
theorem dX4_turnAt_6 : decode cX4_turnAt 6 = .ok (.iconst 1, 1) := by decide +kernel
theorem dX4_turnAt_7 : decode cX4_turnAt 7 = .ok (.isub, 1) := by decide +kernel
theorem dX4_turnAt_8 : decode cX4_turnAt 8 = .ok (.imul, 1) := by decide +kernel
theorem dX4_turnAt_9 : decode cX4_turnAt 9 = .ok (.iconst 2, 1) := by decide +kernel
theorem dX4_turnAt_10 : decode cX4_turnAt 10 = .ok (.iadd, 1) := by decide +kernel
theorem dX4_turnAt_11 : decode cX4_turnAt 11 = .ok (.baload, 1) := by decide +kernel
theorem dX4_turnAt_12 : decode cX4_turnAt 12 = .ok (.ifCond .eq 7, 3) := by decide +kernel
theorem dX4_turnAt_15 : decode cX4_turnAt 15 = .ok (.lconst 0, 1) := by decide +kernel
theorem dX4_turnAt_16 : decode cX4_turnAt 16 = .ok (.goto 9, 3) := by decide +kernel
theorem dX4_turnAt_19 : decode cX4_turnAt 19 = .ok (.aload_n 0, 1) := by decide +kernel
theorem dX4_turnAt_20 : decode cX4_turnAt 20 = .ok (.getfield 20, 3) := by decide +kernel
theorem dX4_turnAt_23 : decode cX4_turnAt 23 = .ok (.iconst 1, 1) := by decide +kernel
theorem dX4_turnAt_24 : decode cX4_turnAt 24 = .ok (.laload, 1) := by decide +kernel
theorem dX4_turnAt_25 : decode cX4_turnAt 25 = .ok (.lreturn, 1) := by decide +kernel
set_option maxRecDepth 20000 in
theorem ggX4_restOf_X4_mayBe : GoodIn wsX4_restOf wsX4_mayBe := goodIn_r _ [13, 14, 1, 15, 16, 17, 18, 19, 12, 20, 41, 42, 43, 44, 45, 46, 47, 48, 49, 50, 51, 52, 53, 54, 55, 56, 57, 58] rfl (by decide +kernel)
set_option maxRecDepth 20000 in
theorem gX4_restOf_X4_mayBe : GoodIn wsX4_restOf (wsV RX4 95 RX4 yX4_mayBe wsX4_mayBe) := goodIn_app (goodIn_of _ (by decide +kernel)) ggX4_restOf_X4_mayBe
set_option maxRecDepth 20000 in
theorem ggX4_restOf_X4_costOf : GoodIn wsX4_restOf wsX4_costOf := goodIn_r _ [24, 5, 1, 25, 26, 27, 12, 28, 16, 29, 17, 18, 19, 20, 30, 31, 32, 33, 15, 41, 42, 43, 44, 45, 46, 47, 48, 49, 50, 51, 52, 53, 54, 55, 56, 57, 58] rfl (by decide +kernel)
set_option maxRecDepth 20000 in
theorem gX4_restOf_X4_costOf : GoodIn wsX4_restOf (wsV RX4 98 RX4 yX4_costOf wsX4_costOf) := goodIn_app (goodIn_of _ (by decide +kernel)) ggX4_restOf_X4_costOf
set_option maxRecDepth 20000 in
theorem ggX4_restOf_X4_place : GoodIn wsX4_restOf wsX4_place := goodIn_r _ [36] rfl (by decide +kernel)
set_option maxRecDepth 20000 in
theorem gX4_restOf_X4_place : GoodIn wsX4_restOf (va_wsS RX4 102 yX4_place wsX4_place) := goodIn_app (goodIn_of _ (by decide +kernel)) ggX4_restOf_X4_place
set_option maxRecDepth 20000 in
theorem ggX4_restOf_X4_turnAt : GoodIn wsX4_restOf wsX4_turnAt := goodIn_r _ [40, 14, 5, 41, 42, 43, 44, 45, 46, 47, 48, 49, 50, 51, 52, 53, 54, 55, 56, 57, 58] rfl (by decide +kernel)
set_option maxRecDepth 20000 in
theorem gX4_restOf_X4_turnAt : GoodIn wsX4_restOf (wsV RX4 106 RX4 yX4_turnAt wsX4_turnAt) := goodIn_app (goodIn_of _ (by decide +kernel)) ggX4_restOf_X4_turnAt
theorem dX4_restOf_0 : decode cX4_restOf 0 = .ok (.iload_n 1, 1) := by decide +kernel
theorem dX4_restOf_1 : decode cX4_restOf 1 = .ok (.aload_n 0, 1) := by decide +kernel
theorem dX4_restOf_2 : decode cX4_restOf 2 = .ok (.getfield 57, 3) := by decide +kernel
theorem dX4_restOf_5 : decode cX4_restOf 5 = .ok (.if_icmp .ne 61, 3) := by decide +kernel
theorem dX4_restOf_8 : decode cX4_restOf 8 = .ok (.aload_n 0, 1) := by decide +kernel
theorem dX4_restOf_9 : decode cX4_restOf 9 = .ok (.getfield 77, 3) := by decide +kernel
theorem dX4_restOf_12 : decode cX4_restOf 12 = .ok (.ifCond .eq 11, 3) := by decide +kernel
theorem dX4_restOf_15 : decode cX4_restOf 15 = .ok (.iload_n 3, 1) := by decide +kernel
theorem dX4_restOf_16 : decode cX4_restOf 16 = .ok (.aload_n 0, 1) := by decide +kernel
theorem dX4_restOf_17 : decode cX4_restOf 17 = .ok (.getfield 77, 3) := by decide +kernel
theorem dX4_restOf_20 : decode cX4_restOf 20 = .ok (.if_icmp .ne 7, 3) := by decide +kernel
theorem dX4_restOf_23 : decode cX4_restOf 23 = .ok (.iconst 1, 1) := by decide +kernel
theorem dX4_restOf_24 : decode cX4_restOf 24 = .ok (.goto 4, 3) := by decide +kernel
theorem dX4_restOf_27 : decode cX4_restOf 27 = .ok (.iconst 0, 1) := by decide +kernel
theorem dX4_restOf_28 : decode cX4_restOf 28 = .ok (.istore 5, 2) := by decide +kernel
theorem dX4_restOf_30 : decode cX4_restOf 30 = .ok (.iload 5, 2) := by decide +kernel
theorem dX4_restOf_32 : decode cX4_restOf 32 = .ok (.ifCond .ne 9, 3) := by decide +kernel
theorem dX4_restOf_35 : decode cX4_restOf 35 = .ok (.ldc2_w 91, 3) := by decide +kernel
theorem dX4_restOf_38 : decode cX4_restOf 38 = .ok (.goto 27, 3) := by decide +kernel
theorem dX4_restOf_41 : decode cX4_restOf 41 = .ok (.iload_n 2, 1) := by decide +kernel
theorem dX4_restOf_42 : decode cX4_restOf 42 = .ok (.iconst 1, 1) := by decide +kernel
theorem dX4_restOf_43 : decode cX4_restOf 43 = .ok (.if_icmp .ne 21, 3) := by decide +kernel
theorem dX4_restOf_46 : decode cX4_restOf 46 = .ok (.iload 4, 2) := by decide +kernel
theorem dX4_restOf_48 : decode cX4_restOf 48 = .ok (.ifCond .ne 16, 3) := by decide +kernel
theorem dX4_restOf_51 : decode cX4_restOf 51 = .ok (.ldc2_w 93, 3) := by decide +kernel
theorem dX4_restOf_54 : decode cX4_restOf 54 = .ok (.aload_n 0, 1) := by decide +kernel
theorem dX4_restOf_55 : decode cX4_restOf 55 = .ok (.getfield 20, 3) := by decide +kernel
theorem dX4_restOf_58 : decode cX4_restOf 58 = .ok (.iconst 2, 1) := by decide +kernel
theorem dX4_restOf_59 : decode cX4_restOf 59 = .ok (.laload, 1) := by decide +kernel
theorem dX4_restOf_60 : decode cX4_restOf 60 = .ok (.lmul, 1) := by decide +kernel
theorem dX4_restOf_61 : decode cX4_restOf 61 = .ok (.goto 4, 3) := by decide +kernel
theorem dX4_restOf_64 : decode cX4_restOf 64 = .ok (.lconst 0, 1) := by decide +kernel
theorem dX4_restOf_65 : decode cX4_restOf 65 = .ok (.lreturn, 1) := by decide +kernel
theorem dX4_restOf_66 : decode cX4_restOf 66 = .ok (.ldc2_w 91, 3) := by decide +kernel
theorem dX4_restOf_69 : decode cX4_restOf 69 = .ok (.lstore 5, 2) := by decide +kernel
theorem dX4_restOf_71 : decode cX4_restOf 71 = .ok (.aload_n 0, 1) := by decide +kernel
theorem dX4_restOf_72 : decode cX4_restOf 72 = .ok (.getfield 77, 3) := by decide +kernel
theorem dX4_restOf_75 : decode cX4_restOf 75 = .ok (.ifCond .ne 7, 3) := by decide +kernel
theorem dX4_restOf_78 : decode cX4_restOf 78 = .ok (.iconst 0, 1) := by decide +kernel
theorem dX4_restOf_79 : decode cX4_restOf 79 = .ok (.goto 6, 3) := by decide +kernel
theorem dX4_restOf_82 : decode cX4_restOf 82 = .ok (.iload_n 3, 1) := by decide +kernel
theorem dX4_restOf_83 : decode cX4_restOf 83 = .ok (.iconst 1, 1) := by decide +kernel
theorem dX4_restOf_84 : decode cX4_restOf 84 = .ok (.iadd, 1) := by decide +kernel
theorem dX4_restOf_85 : decode cX4_restOf 85 = .ok (.istore 7, 2) := by decide +kernel
theorem dX4_restOf_87 : decode cX4_restOf 87 = .ok (.iload_n 1, 1) := by decide +kernel
theorem dX4_restOf_88 : decode cX4_restOf 88 = .ok (.istore 8, 2) := by decide +kernel
theorem dX4_restOf_90 : decode cX4_restOf 90 = .ok (.iload 8, 2) := by decide +kernel
theorem dX4_restOf_92 : decode cX4_restOf 92 = .ok (.aload_n 0, 1) := by decide +kernel
theorem dX4_restOf_93 : decode cX4_restOf 93 = .ok (.getfield 57, 3) := by decide +kernel
theorem dX4_restOf_96 : decode cX4_restOf 96 = .ok (.if_icmp .ge 176, 3) := by decide +kernel
theorem dX4_restOf_99 : decode cX4_restOf 99 = .ok (.iload 7, 2) := by decide +kernel
theorem dX4_restOf_101 : decode cX4_restOf 101 = .ok (.bipush 25, 2) := by decide +kernel
theorem dX4_restOf_103 : decode cX4_restOf 103 = .ok (.if_icmp .ge 169, 3) := by decide +kernel
theorem dX4_restOf_106 : decode cX4_restOf 106 = .ok (.aload_n 0, 1) := by decide +kernel
theorem dX4_restOf_107 : decode cX4_restOf 107 = .ok (.iload_n 1, 1) := by decide +kernel
theorem dX4_restOf_108 : decode cX4_restOf 108 = .ok (.iload 8, 2) := by decide +kernel
theorem dX4_restOf_110 : decode cX4_restOf 110 = .ok (.invokevirtual 95, 3) := by decide +kernel
theorem dX4_restOf_113 : decode cX4_restOf 113 = .ok (.ifCond .eq 153, 3) := by decide +kernel
theorem dX4_restOf_116 : decode cX4_restOf 116 = .ok (.ldc2_w 93, 3) := by decide +kernel
theorem dX4_restOf_119 : decode cX4_restOf 119 = .ok (.aload_n 0, 1) := by decide +kernel
theorem dX4_restOf_120 : decode cX4_restOf 120 = .ok (.iload_n 1, 1) := by decide +kernel
theorem dX4_restOf_121 : decode cX4_restOf 121 = .ok (.iload 8, 2) := by decide +kernel
theorem dX4_restOf_123 : decode cX4_restOf 123 = .ok (.invokevirtual 98, 3) := by decide +kernel
theorem dX4_restOf_126 : decode cX4_restOf 126 = .ok (.lmul, 1) := by decide +kernel
theorem dX4_restOf_127 : decode cX4_restOf 127 = .ok (.lconst 1, 1) := by decide +kernel
theorem dX4_restOf_128 : decode cX4_restOf 128 = .ok (.ladd, 1) := by decide +kernel
theorem dX4_restOf_129 : decode cX4_restOf 129 = .ok (.lstore 9, 2) := by decide +kernel
theorem dX4_restOf_131 : decode cX4_restOf 131 = .ok (.iload_n 2, 1) := by decide +kernel
theorem dX4_restOf_132 : decode cX4_restOf 132 = .ok (.aload_n 0, 1) := by decide +kernel
theorem dX4_restOf_133 : decode cX4_restOf 133 = .ok (.getfield 46, 3) := by decide +kernel
theorem dX4_restOf_136 : decode cX4_restOf 136 = .ok (.if_icmp .ge 25, 3) := by decide +kernel
theorem dX4_restOf_139 : decode cX4_restOf 139 = .ok (.aload_n 0, 1) := by decide +kernel
theorem dX4_restOf_140 : decode cX4_restOf 140 = .ok (.getfield 24, 3) := by decide +kernel
theorem dX4_restOf_143 : decode cX4_restOf 143 = .ok (.iload 8, 2) := by decide +kernel
theorem dX4_restOf_145 : decode cX4_restOf 145 = .ok (.iconst 1, 1) := by decide +kernel
theorem dX4_restOf_146 : decode cX4_restOf 146 = .ok (.iadd, 1) := by decide +kernel
theorem dX4_restOf_147 : decode cX4_restOf 147 = .ok (.iload_n 2, 1) := by decide +kernel
theorem dX4_restOf_148 : decode cX4_restOf 148 = .ok (.iconst 1, 1) := by decide +kernel
theorem dX4_restOf_149 : decode cX4_restOf 149 = .ok (.iadd, 1) := by decide +kernel
theorem dX4_restOf_150 : decode cX4_restOf 150 = .ok (.iload 7, 2) := by decide +kernel
theorem dX4_restOf_152 : decode cX4_restOf 152 = .ok (.iload 4, 2) := by decide +kernel
theorem dX4_restOf_154 : decode cX4_restOf 154 = .ok (.invokestatic 102, 3) := by decide +kernel
theorem dX4_restOf_157 : decode cX4_restOf 157 = .ok (.laload, 1) := by decide +kernel
theorem dX4_restOf_158 : decode cX4_restOf 158 = .ok (.goto 6, 3) := by decide +kernel
theorem dX4_restOf_161 : decode cX4_restOf 161 = .ok (.ldc2_w 91, 3) := by decide +kernel
theorem dX4_restOf_164 : decode cX4_restOf 164 = .ok (.lstore 11, 2) := by decide +kernel
theorem dX4_restOf_166 : decode cX4_restOf 166 = .ok (.aload_n 0, 1) := by decide +kernel
theorem dX4_restOf_167 : decode cX4_restOf 167 = .ok (.getfield 24, 3) := by decide +kernel
theorem dX4_restOf_170 : decode cX4_restOf 170 = .ok (.iload 8, 2) := by decide +kernel
theorem dX4_restOf_172 : decode cX4_restOf 172 = .ok (.iconst 1, 1) := by decide +kernel
theorem dX4_restOf_173 : decode cX4_restOf 173 = .ok (.iadd, 1) := by decide +kernel
theorem dX4_restOf_174 : decode cX4_restOf 174 = .ok (.iconst 1, 1) := by decide +kernel
theorem dX4_restOf_175 : decode cX4_restOf 175 = .ok (.iload 7, 2) := by decide +kernel
theorem dX4_restOf_177 : decode cX4_restOf 177 = .ok (.iconst 0, 1) := by decide +kernel
theorem dX4_restOf_178 : decode cX4_restOf 178 = .ok (.invokestatic 102, 3) := by decide +kernel
theorem dX4_restOf_181 : decode cX4_restOf 181 = .ok (.laload, 1) := by decide +kernel
theorem dX4_restOf_182 : decode cX4_restOf 182 = .ok (.lstore 13, 2) := by decide +kernel
theorem dX4_restOf_184 : decode cX4_restOf 184 = .ok (.lload 13, 2) := by decide +kernel
theorem dX4_restOf_186 : decode cX4_restOf 186 = .ok (.ldc2_w 91, 3) := by decide +kernel
theorem dX4_restOf_189 : decode cX4_restOf 189 = .ok (.lcmp, 1) := by decide +kernel
theorem dX4_restOf_190 : decode cX4_restOf 190 = .ok (.ifCond .ne 9, 3) := by decide +kernel
theorem dX4_restOf_193 : decode cX4_restOf 193 = .ok (.ldc2_w 91, 3) := by decide +kernel
theorem dX4_restOf_196 : decode cX4_restOf 196 = .ok (.goto 19, 3) := by decide +kernel
theorem dX4_restOf_199 : decode cX4_restOf 199 = .ok (.lload 13, 2) := by decide +kernel
theorem dX4_restOf_201 : decode cX4_restOf 201 = .ok (.ldc2_w 93, 3) := by decide +kernel
theorem dX4_restOf_204 : decode cX4_restOf 204 = .ok (.aload_n 0, 1) := by decide +kernel
theorem dX4_restOf_205 : decode cX4_restOf 205 = .ok (.iload_n 1, 1) := by decide +kernel
theorem dX4_restOf_206 : decode cX4_restOf 206 = .ok (.invokevirtual 106, 3) := by decide +kernel
theorem dX4_restOf_209 : decode cX4_restOf 209 = .ok (.lmul, 1) := by decide +kernel
theorem dX4_restOf_210 : decode cX4_restOf 210 = .ok (.ladd, 1) := by decide +kernel
theorem dX4_restOf_211 : decode cX4_restOf 211 = .ok (.ldc2_w 110, 3) := by decide +kernel
theorem dX4_restOf_214 : decode cX4_restOf 214 = .ok (.ladd, 1) := by decide +kernel
theorem dX4_restOf_215 : decode cX4_restOf 215 = .ok (.lstore 13, 2) := by decide +kernel
theorem dX4_restOf_217 : decode cX4_restOf 217 = .ok (.lload 11, 2) := by decide +kernel
theorem dX4_restOf_219 : decode cX4_restOf 219 = .ok (.lload 13, 2) := by decide +kernel
theorem dX4_restOf_221 : decode cX4_restOf 221 = .ok (.lcmp, 1) := by decide +kernel
theorem dX4_restOf_222 : decode cX4_restOf 222 = .ok (.ifCond .ge 8, 3) := by decide +kernel
theorem dX4_restOf_225 : decode cX4_restOf 225 = .ok (.lload 11, 2) := by decide +kernel
theorem dX4_restOf_227 : decode cX4_restOf 227 = .ok (.goto 5, 3) := by decide +kernel
theorem dX4_restOf_230 : decode cX4_restOf 230 = .ok (.lload 13, 2) := by decide +kernel
theorem dX4_restOf_232 : decode cX4_restOf 232 = .ok (.lstore 15, 2) := by decide +kernel
theorem dX4_restOf_234 : decode cX4_restOf 234 = .ok (.lload 15, 2) := by decide +kernel
theorem dX4_restOf_236 : decode cX4_restOf 236 = .ok (.ldc2_w 91, 3) := by decide +kernel
theorem dX4_restOf_239 : decode cX4_restOf 239 = .ok (.lcmp, 1) := by decide +kernel
theorem dX4_restOf_240 : decode cX4_restOf 240 = .ok (.ifCond .eq 22, 3) := by decide +kernel
theorem dX4_restOf_243 : decode cX4_restOf 243 = .ok (.lload 15, 2) := by decide +kernel
theorem dX4_restOf_245 : decode cX4_restOf 245 = .ok (.lload 9, 2) := by decide +kernel
theorem dX4_restOf_247 : decode cX4_restOf 247 = .ok (.ladd, 1) := by decide +kernel
theorem dX4_restOf_248 : decode cX4_restOf 248 = .ok (.lload 5, 2) := by decide +kernel
theorem dX4_restOf_250 : decode cX4_restOf 250 = .ok (.lcmp, 1) := by decide +kernel
theorem dX4_restOf_251 : decode cX4_restOf 251 = .ok (.ifCond .ge 11, 3) := by decide +kernel
theorem dX4_restOf_254 : decode cX4_restOf 254 = .ok (.lload 15, 2) := by decide +kernel
theorem dX4_restOf_256 : decode cX4_restOf 256 = .ok (.lload 9, 2) := by decide +kernel
theorem dX4_restOf_258 : decode cX4_restOf 258 = .ok (.ladd, 1) := by decide +kernel
theorem dX4_restOf_259 : decode cX4_restOf 259 = .ok (.goto 5, 3) := by decide +kernel
theorem dX4_restOf_262 : decode cX4_restOf 262 = .ok (.lload 5, 2) := by decide +kernel
theorem dX4_restOf_264 : decode cX4_restOf 264 = .ok (.lstore 5, 2) := by decide +kernel
theorem dX4_restOf_266 : decode cX4_restOf 266 = .ok (.iinc 8 1, 3) := by decide +kernel
theorem dX4_restOf_269 : decode cX4_restOf 269 = .ok (.goto (-179), 3) := by decide +kernel
theorem dX4_restOf_272 : decode cX4_restOf 272 = .ok (.lload 5, 2) := by decide +kernel
theorem dX4_restOf_274 : decode cX4_restOf 274 = .ok (.lreturn, 1) := by decide +kernel
set_option maxRecDepth 20000 in
theorem ggX4_find_X4_place : GoodIn wsX4_find wsX4_place := goodIn_r _ [15] rfl (by decide +kernel)
set_option maxRecDepth 20000 in
theorem gX4_find_X4_place : GoodIn wsX4_find (va_wsS RX4 102 yX4_place wsX4_place) := goodIn_app (goodIn_of _ (by decide +kernel)) ggX4_find_X4_place
set_option maxRecDepth 20000 in
theorem ggX4_find_X4_restOf : GoodIn wsX4_find wsX4_restOf := goodIn_r _ [19, 3, 2, 6, 8, 20, 4, 5, 21, 22, 23, 24, 14, 25, 26, 27, 28, 29, 30, 31, 32, 33, 34, 35, 36, 37, 38, 39, 40, 41, 42, 43, 44, 45, 12, 13, 15, 46, 47, 48, 49, 71, 72, 73, 74, 75, 76, 77, 78, 79, 80, 81, 82, 83, 84, 85, 86, 87, 88] rfl (by decide +kernel)
set_option maxRecDepth 20000 in
theorem gX4_find_X4_restOf : GoodIn wsX4_find (wsV RX4 112 RX4 yX4_restOf wsX4_restOf) := goodIn_app (goodIn_of _ (by decide +kernel)) ggX4_find_X4_restOf
set_option maxRecDepth 20000 in
theorem ggX4_find_X4_mayBe : GoodIn wsX4_find wsX4_mayBe := goodIn_r _ [25, 26, 3, 27, 28, 29, 30, 31, 14, 32, 71, 72, 73, 74, 75, 76, 77, 78, 79, 80, 81, 82, 83, 84, 85, 86, 87, 88] rfl (by decide +kernel)
set_option maxRecDepth 20000 in
theorem gX4_find_X4_mayBe : GoodIn wsX4_find (wsV RX4 95 RX4 yX4_mayBe wsX4_mayBe) := goodIn_app (goodIn_of _ (by decide +kernel)) ggX4_find_X4_mayBe
set_option maxRecDepth 20000 in
theorem ggX4_find_X4_costOf : GoodIn wsX4_find wsX4_costOf := goodIn_r _ [36, 20, 3, 37, 38, 39, 14, 40, 28, 41, 29, 30, 31, 32, 42, 43, 44, 45, 27, 71, 72, 73, 74, 75, 76, 77, 78, 79, 80, 81, 82, 83, 84, 85, 86, 87, 88] rfl (by decide +kernel)
set_option maxRecDepth 20000 in
theorem gX4_find_X4_costOf : GoodIn wsX4_find (wsV RX4 98 RX4 yX4_costOf wsX4_costOf) := goodIn_app (goodIn_of _ (by decide +kernel)) ggX4_find_X4_costOf
set_option maxRecDepth 20000 in
theorem ggX4_find_X4_pickLines : GoodIn wsX4_find wsX4_pickLines := goodIn_r _ [53, 3, 10, 54, 55, 56, 22, 23, 24, 14, 25, 26, 27, 28, 29, 30, 31, 32, 57, 58, 59, 60, 8, 6, 21, 4, 5, 2, 7, 33, 34, 35, 36, 20, 37, 38, 39, 40, 41, 42, 43, 44, 45, 46, 47, 48, 49, 12, 13, 15, 71, 72, 73, 74, 75, 76, 77, 78, 79, 80, 81, 82, 83, 84, 85, 86, 87, 88] rfl (by decide +kernel)
set_option maxRecDepth 20000 in
theorem gX4_find_X4_pickLines : GoodIn wsX4_find (wsV RX4 128 RX4 yX4_pickLines wsX4_pickLines) := goodIn_app (goodIn_of _ (by decide +kernel)) ggX4_find_X4_pickLines
set_option maxRecDepth 20000 in
theorem ggX4_find_X4_pickPages : GoodIn wsX4_find wsX4_pickPages := goodIn_r _ [64, 65, 10, 6, 4, 8, 21, 66, 11, 67, 68, 69, 14, 70, 20, 54, 46, 47, 48, 49, 26, 71, 72, 73, 74, 75, 76, 77, 78, 79, 80, 81, 82, 83, 84, 85, 86, 87, 88] rfl (by decide +kernel)
set_option maxRecDepth 20000 in
theorem gX4_find_X4_pickPages : GoodIn wsX4_find (wsV RX4 131 RX4 yX4_pickPages wsX4_pickPages) := goodIn_app (goodIn_of _ (by decide +kernel)) ggX4_find_X4_pickPages
theorem dX4_find_0 : decode cX4_find 0 = .ok (.aload_n 0, 1) := by decide +kernel
theorem dX4_find_1 : decode cX4_find 1 = .ok (.getfield 68, 3) := by decide +kernel
theorem dX4_find_4 : decode cX4_find 4 = .ok (.ifCond .eq 4, 3) := by decide +kernel
theorem dX4_find_7 : decode cX4_find 7 = .ok (.return_, 1) := by decide +kernel
theorem dX4_find_8 : decode cX4_find 8 = .ok (.aload_n 0, 1) := by decide +kernel
theorem dX4_find_9 : decode cX4_find 9 = .ok (.iconst 1, 1) := by decide +kernel
theorem dX4_find_10 : decode cX4_find 10 = .ok (.putfield 68, 3) := by decide +kernel
