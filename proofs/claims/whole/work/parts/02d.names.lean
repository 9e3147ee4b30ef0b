theorem dX1_offerGoingOn_3 : decode cX1_offerGoingOn 3 = .ok (.iadd, 1) := by decide +kernel
theorem dX1_offerGoingOn_4 : decode cX1_offerGoingOn 4 = .ok (.bipush 8, 2) := by decide +kernel
theorem dX1_offerGoingOn_6 : decode cX1_offerGoingOn 6 = .ok (.imul, 1) := by decide +kernel
theorem dX1_offerGoingOn_7 : decode cX1_offerGoingOn 7 = .ok (.istore 6, 2) := by decide +kernel
theorem dX1_offerGoingOn_9 : decode cX1_offerGoingOn 9 = .ok (.aload_n 0, 1) := by decide +kernel
theorem dX1_offerGoingOn_10 : decode cX1_offerGoingOn 10 = .ok (.getfield 24, 3) := by decide +kernel
theorem dX1_offerGoingOn_13 : decode cX1_offerGoingOn 13 = .ok (.iload 6, 2) := by decide +kernel
theorem dX1_offerGoingOn_15 : decode cX1_offerGoingOn 15 = .ok (.laload, 1) := by decide +kernel
theorem dX1_offerGoingOn_16 : decode cX1_offerGoingOn 16 = .ok (.ldc2_w 30, 3) := by decide +kernel
theorem dX1_offerGoingOn_19 : decode cX1_offerGoingOn 19 = .ok (.lcmp, 1) := by decide +kernel
theorem dX1_offerGoingOn_20 : decode cX1_offerGoingOn 20 = .ok (.ifCond .eq 56, 3) := by decide +kernel
theorem dX1_offerGoingOn_23 : decode cX1_offerGoingOn 23 = .ok (.aload_n 0, 1) := by decide +kernel
theorem dX1_offerGoingOn_24 : decode cX1_offerGoingOn 24 = .ok (.getfield 21, 3) := by decide +kernel
theorem dX1_offerGoingOn_27 : decode cX1_offerGoingOn 27 = .ok (.iload 4, 2) := by decide +kernel
theorem dX1_offerGoingOn_29 : decode cX1_offerGoingOn 29 = .ok (.laload, 1) := by decide +kernel
theorem dX1_offerGoingOn_30 : decode cX1_offerGoingOn 30 = .ok (.ldc2_w 62, 3) := by decide +kernel
theorem dX1_offerGoingOn_33 : decode cX1_offerGoingOn 33 = .ok (.lmul, 1) := by decide +kernel
theorem dX1_offerGoingOn_34 : decode cX1_offerGoingOn 34 = .ok (.ldc2_w 98, 3) := by decide +kernel
theorem dX1_offerGoingOn_37 : decode cX1_offerGoingOn 37 = .ok (.ladd, 1) := by decide +kernel
theorem dX1_offerGoingOn_38 : decode cX1_offerGoingOn 38 = .ok (.lstore 7, 2) := by decide +kernel
theorem dX1_offerGoingOn_40 : decode cX1_offerGoingOn 40 = .ok (.aload_n 0, 1) := by decide +kernel
theorem dX1_offerGoingOn_41 : decode cX1_offerGoingOn 41 = .ok (.iload_n 1, 1) := by decide +kernel
theorem dX1_offerGoingOn_42 : decode cX1_offerGoingOn 42 = .ok (.lload_n 2, 1) := by decide +kernel
theorem dX1_offerGoingOn_43 : decode cX1_offerGoingOn 43 = .ok (.lload 7, 2) := by decide +kernel
theorem dX1_offerGoingOn_45 : decode cX1_offerGoingOn 45 = .ok (.ladd, 1) := by decide +kernel
theorem dX1_offerGoingOn_46 : decode cX1_offerGoingOn 46 = .ok (.aload_n 0, 1) := by decide +kernel
theorem dX1_offerGoingOn_47 : decode cX1_offerGoingOn 47 = .ok (.getfield 24, 3) := by decide +kernel
theorem dX1_offerGoingOn_50 : decode cX1_offerGoingOn 50 = .ok (.iload 6, 2) := by decide +kernel
theorem dX1_offerGoingOn_52 : decode cX1_offerGoingOn 52 = .ok (.laload, 1) := by decide +kernel
theorem dX1_offerGoingOn_53 : decode cX1_offerGoingOn 53 = .ok (.ladd, 1) := by decide +kernel
theorem dX1_offerGoingOn_54 : decode cX1_offerGoingOn 54 = .ok (.iload 4, 2) := by decide +kernel
theorem dX1_offerGoingOn_56 : decode cX1_offerGoingOn 56 = .ok (.invokestatic 66, 3) := by decide +kernel
theorem dX1_offerGoingOn_59 : decode cX1_offerGoingOn 59 = .ok (.iload 4, 2) := by decide +kernel
theorem dX1_offerGoingOn_61 : decode cX1_offerGoingOn 61 = .ok (.invokestatic 70, 3) := by decide +kernel
theorem dX1_offerGoingOn_64 : decode cX1_offerGoingOn 64 = .ok (.ladd, 1) := by decide +kernel
theorem dX1_offerGoingOn_65 : decode cX1_offerGoingOn 65 = .ok (.aload_n 0, 1) := by decide +kernel
theorem dX1_offerGoingOn_66 : decode cX1_offerGoingOn 66 = .ok (.getfield 27, 3) := by decide +kernel
theorem dX1_offerGoingOn_69 : decode cX1_offerGoingOn 69 = .ok (.iload 6, 2) := by decide +kernel
theorem dX1_offerGoingOn_71 : decode cX1_offerGoingOn 71 = .ok (.laload, 1) := by decide +kernel
theorem dX1_offerGoingOn_72 : decode cX1_offerGoingOn 72 = .ok (.ladd, 1) := by decide +kernel
theorem dX1_offerGoingOn_73 : decode cX1_offerGoingOn 73 = .ok (.invokevirtual 100, 3) := by decide +kernel
theorem dX1_offerGoingOn_76 : decode cX1_offerGoingOn 76 = .ok (.iload 5, 2) := by decide +kernel
theorem dX1_offerGoingOn_78 : decode cX1_offerGoingOn 78 = .ok (.aload_n 0, 1) := by decide +kernel
theorem dX1_offerGoingOn_79 : decode cX1_offerGoingOn 79 = .ok (.getfield 11, 3) := by decide +kernel
theorem dX1_offerGoingOn_82 : decode cX1_offerGoingOn 82 = .ok (.getfield 81, 3) := by decide +kernel
theorem dX1_offerGoingOn_85 : decode cX1_offerGoingOn 85 = .ok (.if_icmp .ge 53, 3) := by decide +kernel
theorem dX1_offerGoingOn_88 : decode cX1_offerGoingOn 88 = .ok (.aload_n 0, 1) := by decide +kernel
theorem dX1_offerGoingOn_89 : decode cX1_offerGoingOn 89 = .ok (.getfield 24, 3) := by decide +kernel
theorem dX1_offerGoingOn_92 : decode cX1_offerGoingOn 92 = .ok (.iload 6, 2) := by decide +kernel
theorem dX1_offerGoingOn_94 : decode cX1_offerGoingOn 94 = .ok (.iload 5, 2) := by decide +kernel
theorem dX1_offerGoingOn_96 : decode cX1_offerGoingOn 96 = .ok (.iadd, 1) := by decide +kernel
theorem dX1_offerGoingOn_97 : decode cX1_offerGoingOn 97 = .ok (.laload, 1) := by decide +kernel
theorem dX1_offerGoingOn_98 : decode cX1_offerGoingOn 98 = .ok (.ldc2_w 30, 3) := by decide +kernel
theorem dX1_offerGoingOn_101 : decode cX1_offerGoingOn 101 = .ok (.lcmp, 1) := by decide +kernel
theorem dX1_offerGoingOn_102 : decode cX1_offerGoingOn 102 = .ok (.ifCond .eq 36, 3) := by decide +kernel
theorem dX1_offerGoingOn_105 : decode cX1_offerGoingOn 105 = .ok (.aload_n 0, 1) := by decide +kernel
theorem dX1_offerGoingOn_106 : decode cX1_offerGoingOn 106 = .ok (.iload_n 1, 1) := by decide +kernel
theorem dX1_offerGoingOn_107 : decode cX1_offerGoingOn 107 = .ok (.lload_n 2, 1) := by decide +kernel
theorem dX1_offerGoingOn_108 : decode cX1_offerGoingOn 108 = .ok (.aload_n 0, 1) := by decide +kernel
theorem dX1_offerGoingOn_109 : decode cX1_offerGoingOn 109 = .ok (.getfield 24, 3) := by decide +kernel
theorem dX1_offerGoingOn_112 : decode cX1_offerGoingOn 112 = .ok (.iload 6, 2) := by decide +kernel
theorem dX1_offerGoingOn_114 : decode cX1_offerGoingOn 114 = .ok (.iload 5, 2) := by decide +kernel
theorem dX1_offerGoingOn_116 : decode cX1_offerGoingOn 116 = .ok (.iadd, 1) := by decide +kernel
theorem dX1_offerGoingOn_117 : decode cX1_offerGoingOn 117 = .ok (.laload, 1) := by decide +kernel
theorem dX1_offerGoingOn_118 : decode cX1_offerGoingOn 118 = .ok (.ladd, 1) := by decide +kernel
theorem dX1_offerGoingOn_119 : decode cX1_offerGoingOn 119 = .ok (.iload 4, 2) := by decide +kernel
theorem dX1_offerGoingOn_121 : decode cX1_offerGoingOn 121 = .ok (.invokestatic 66, 3) := by decide +kernel
theorem dX1_offerGoingOn_124 : decode cX1_offerGoingOn 124 = .ok (.aload_n 0, 1) := by decide +kernel
theorem dX1_offerGoingOn_125 : decode cX1_offerGoingOn 125 = .ok (.getfield 27, 3) := by decide +kernel
theorem dX1_offerGoingOn_128 : decode cX1_offerGoingOn 128 = .ok (.iload 6, 2) := by decide +kernel
theorem dX1_offerGoingOn_130 : decode cX1_offerGoingOn 130 = .ok (.iload 5, 2) := by decide +kernel
theorem dX1_offerGoingOn_132 : decode cX1_offerGoingOn 132 = .ok (.iadd, 1) := by decide +kernel
theorem dX1_offerGoingOn_133 : decode cX1_offerGoingOn 133 = .ok (.laload, 1) := by decide +kernel
theorem dX1_offerGoingOn_134 : decode cX1_offerGoingOn 134 = .ok (.ladd, 1) := by decide +kernel
theorem dX1_offerGoingOn_135 : decode cX1_offerGoingOn 135 = .ok (.invokevirtual 100, 3) := by decide +kernel
theorem dX1_offerGoingOn_138 : decode cX1_offerGoingOn 138 = .ok (.return_, 1) := by decide +kernel
theorem dX1_offer_0 : decode cX1_offer 0 = .ok (.lload_n 2, 1) := by decide +kernel
theorem dX1_offer_1 : decode cX1_offer 1 = .ok (.aload_n 0, 1) := by decide +kernel
theorem dX1_offer_2 : decode cX1_offer 2 = .ok (.getfield 24, 3) := by decide +kernel
theorem dX1_offer_5 : decode cX1_offer 5 = .ok (.iload_n 1, 1) := by decide +kernel
theorem dX1_offer_6 : decode cX1_offer 6 = .ok (.laload, 1) := by decide +kernel
theorem dX1_offer_7 : decode cX1_offer 7 = .ok (.lcmp, 1) := by decide +kernel
theorem dX1_offer_8 : decode cX1_offer 8 = .ok (.ifCond .lt 26, 3) := by decide +kernel
theorem dX1_offer_11 : decode cX1_offer 11 = .ok (.lload_n 2, 1) := by decide +kernel
theorem dX1_offer_12 : decode cX1_offer 12 = .ok (.aload_n 0, 1) := by decide +kernel
theorem dX1_offer_13 : decode cX1_offer 13 = .ok (.getfield 24, 3) := by decide +kernel
theorem dX1_offer_16 : decode cX1_offer 16 = .ok (.iload_n 1, 1) := by decide +kernel
theorem dX1_offer_17 : decode cX1_offer 17 = .ok (.laload, 1) := by decide +kernel
theorem dX1_offer_18 : decode cX1_offer 18 = .ok (.lcmp, 1) := by decide +kernel
theorem dX1_offer_19 : decode cX1_offer 19 = .ok (.ifCond .ne 30, 3) := by decide +kernel
theorem dX1_offer_22 : decode cX1_offer 22 = .ok (.lload 4, 2) := by decide +kernel
theorem dX1_offer_24 : decode cX1_offer 24 = .ok (.aload_n 0, 1) := by decide +kernel
theorem dX1_offer_25 : decode cX1_offer 25 = .ok (.getfield 27, 3) := by decide +kernel
theorem dX1_offer_28 : decode cX1_offer 28 = .ok (.iload_n 1, 1) := by decide +kernel
theorem dX1_offer_29 : decode cX1_offer 29 = .ok (.laload, 1) := by decide +kernel
theorem dX1_offer_30 : decode cX1_offer 30 = .ok (.lcmp, 1) := by decide +kernel
theorem dX1_offer_31 : decode cX1_offer 31 = .ok (.ifCond .ge 18, 3) := by decide +kernel
theorem dX1_offer_34 : decode cX1_offer 34 = .ok (.aload_n 0, 1) := by decide +kernel
theorem dX1_offer_35 : decode cX1_offer 35 = .ok (.getfield 24, 3) := by decide +kernel
theorem dX1_offer_38 : decode cX1_offer 38 = .ok (.iload_n 1, 1) := by decide +kernel
theorem dX1_offer_39 : decode cX1_offer 39 = .ok (.lload_n 2, 1) := by decide +kernel
theorem dX1_offer_40 : decode cX1_offer 40 = .ok (.lastore, 1) := by decide +kernel
theorem dX1_offer_41 : decode cX1_offer 41 = .ok (.aload_n 0, 1) := by decide +kernel
theorem dX1_offer_42 : decode cX1_offer 42 = .ok (.getfield 27, 3) := by decide +kernel
theorem dX1_offer_45 : decode cX1_offer 45 = .ok (.iload_n 1, 1) := by decide +kernel
theorem dX1_offer_46 : decode cX1_offer 46 = .ok (.lload 4, 2) := by decide +kernel
theorem dX1_offer_48 : decode cX1_offer 48 = .ok (.lastore, 1) := by decide +kernel
theorem dX1_offer_49 : decode cX1_offer 49 = .ok (.return_, 1) := by decide +kernel
theorem dX1_lineEnd_0 : decode cX1_lineEnd 0 = .ok (.lconst 1, 1) := by decide +kernel
theorem dX1_lineEnd_1 : decode cX1_lineEnd 1 = .ok (.bipush 47, 2) := by decide +kernel
theorem dX1_lineEnd_3 : decode cX1_lineEnd 3 = .ok (.iload_n 0, 1) := by decide +kernel
theorem dX1_lineEnd_4 : decode cX1_lineEnd 4 = .ok (.isub, 1) := by decide +kernel
theorem dX1_lineEnd_5 : decode cX1_lineEnd 5 = .ok (.lshl, 1) := by decide +kernel
theorem dX1_lineEnd_6 : decode cX1_lineEnd 6 = .ok (.lreturn, 1) := by decide +kernel
theorem dX1_pageEnd_0 : decode cX1_pageEnd 0 = .ok (.lconst 1, 1) := by decide +kernel
theorem dX1_pageEnd_1 : decode cX1_pageEnd 1 = .ok (.bipush 23, 2) := by decide +kernel
theorem dX1_pageEnd_3 : decode cX1_pageEnd 3 = .ok (.iload_n 0, 1) := by decide +kernel
theorem dX1_pageEnd_4 : decode cX1_pageEnd 4 = .ok (.isub, 1) := by decide +kernel
theorem dX1_pageEnd_5 : decode cX1_pageEnd 5 = .ok (.lshl, 1) := by decide +kernel
theorem dX1_pageEnd_6 : decode cX1_pageEnd 6 = .ok (.lreturn, 1) := by decide +kernel
theorem dX2_init_0 : decode cX2_init 0 = .ok (.aload_n 0, 1) := by decide +kernel
theorem dX2_init_1 : decode cX2_init 1 = .ok (.invokespecial 3, 3) := by decide +kernel
theorem dX2_init_4 : decode cX2_init 4 = .ok (.aload_n 0, 1) := by decide +kernel
theorem dX2_init_5 : decode cX2_init 5 = .ok (.iconst 0, 1) := by decide +kernel
theorem dX2_init_6 : decode cX2_init 6 = .ok (.putfield 9, 3) := by decide +kernel
theorem dX2_init_9 : decode cX2_init 9 = .ok (.aload_n 0, 1) := by decide +kernel
theorem dX2_init_10 : decode cX2_init 10 = .ok (.lconst 0, 1) := by decide +kernel
theorem dX2_init_11 : decode cX2_init 11 = .ok (.putfield 15, 3) := by decide +kernel
theorem dX2_init_14 : decode cX2_init 14 = .ok (.aload_n 0, 1) := by decide +kernel
theorem dX2_init_15 : decode cX2_init 15 = .ok (.iconst 0, 1) := by decide +kernel
theorem dX2_init_16 : decode cX2_init 16 = .ok (.putfield 19, 3) := by decide +kernel
theorem dX2_init_19 : decode cX2_init 19 = .ok (.aload_n 0, 1) := by decide +kernel
theorem dX2_init_20 : decode cX2_init 20 = .ok (.iconst 0, 1) := by decide +kernel
theorem dX2_init_21 : decode cX2_init 21 = .ok (.putfield 23, 3) := by decide +kernel
theorem dX2_init_24 : decode cX2_init 24 = .ok (.aload_n 0, 1) := by decide +kernel
theorem dX2_init_25 : decode cX2_init 25 = .ok (.bipush 25, 2) := by decide +kernel
theorem dX2_init_27 : decode cX2_init 27 = .ok (.newarray .int, 2) := by decide +kernel
theorem dX2_init_29 : decode cX2_init 29 = .ok (.putfield 26, 3) := by decide +kernel
theorem dX2_init_32 : decode cX2_init 32 = .ok (.aload_n 0, 1) := by decide +kernel
theorem dX2_init_33 : decode cX2_init 33 = .ok (.bipush 25, 2) := by decide +kernel
theorem dX2_init_35 : decode cX2_init 35 = .ok (.newarray .int, 2) := by decide +kernel
theorem dX2_init_37 : decode cX2_init 37 = .ok (.putfield 30, 3) := by decide +kernel
theorem dX2_init_40 : decode cX2_init 40 = .ok (.aload_n 0, 1) := by decide +kernel
theorem dX2_init_41 : decode cX2_init 41 = .ok (.bipush 24, 2) := by decide +kernel
theorem dX2_init_43 : decode cX2_init 43 = .ok (.newarray .int, 2) := by decide +kernel
theorem dX2_init_45 : decode cX2_init 45 = .ok (.putfield 33, 3) := by decide +kernel
theorem dX2_init_48 : decode cX2_init 48 = .ok (.aload_n 0, 1) := by decide +kernel
theorem dX2_init_49 : decode cX2_init 49 = .ok (.bipush 24, 2) := by decide +kernel
theorem dX2_init_51 : decode cX2_init 51 = .ok (.newarray .int, 2) := by decide +kernel
theorem dX2_init_53 : decode cX2_init 53 = .ok (.putfield 36, 3) := by decide +kernel
theorem dX2_init_56 : decode cX2_init 56 = .ok (.return_, 1) := by decide +kernel
set_option maxRecDepth 20000 in
theorem ggX2_take_X1_hasFound : GoodIn wsX2_take wsX1_hasFound := goodIn_r _ [13, 14, 15, 46, 47, 48, 49, 50, 51, 52] rfl (by decide +kernel)
set_option maxRecDepth 20000 in
theorem gX2_take_X1_hasFound : GoodIn wsX2_take (wsV RX2 39 RX1 yX1_hasFound wsX1_hasFound) := goodIn_app (goodIn_of _ (by decide +kernel)) ggX2_take_X1_hasFound
set_option maxRecDepth 20000 in
theorem ggX2_take_X1_foundTotal : GoodIn wsX2_take wsX1_foundTotal := goodIn_r _ [19, 14, 20, 21, 22, 10, 11, 12, 13, 15, 46, 47, 48, 49, 50, 51, 52] rfl (by decide +kernel)
set_option maxRecDepth 20000 in
theorem gX2_take_X1_foundTotal : GoodIn wsX2_take (wsV RX2 45 RX1 yX1_foundTotal wsX1_foundTotal) := goodIn_app (goodIn_of _ (by decide +kernel)) ggX2_take_X1_foundTotal
set_option maxRecDepth 20000 in
theorem ggX2_take_X1_lineEndsAt : GoodIn wsX2_take wsX1_lineEndsAt := goodIn_r _ [26, 27, 28, 29, 12, 30, 46, 47, 48, 49, 50, 51, 52] rfl (by decide +kernel)
set_option maxRecDepth 20000 in
theorem gX2_take_X1_lineEndsAt : GoodIn wsX2_take (wsV RX2 49 RX1 yX1_lineEndsAt wsX1_lineEndsAt) := goodIn_app (goodIn_of _ (by decide +kernel)) ggX2_take_X1_lineEndsAt
set_option maxRecDepth 20000 in
theorem ggX2_take_X1_pageEndsAt : GoodIn wsX2_take wsX1_pageEndsAt := goodIn_r _ [34, 27, 35, 36, 12, 37, 46, 47, 48, 49, 50, 51, 52] rfl (by decide +kernel)
set_option maxRecDepth 20000 in
theorem gX2_take_X1_pageEndsAt : GoodIn wsX2_take (wsV RX2 53 RX1 yX1_pageEndsAt wsX1_pageEndsAt) := goodIn_app (goodIn_of _ (by decide +kernel)) ggX2_take_X1_pageEndsAt
theorem dX2_take_0 : decode cX2_take 0 = .ok (.aload_n 0, 1) := by decide +kernel
theorem dX2_take_1 : decode cX2_take 1 = .ok (.aload_n 1, 1) := by decide +kernel
theorem dX2_take_2 : decode cX2_take 2 = .ok (.invokevirtual 39, 3) := by decide +kernel
theorem dX2_take_5 : decode cX2_take 5 = .ok (.putfield 9, 3) := by decide +kernel
theorem dX2_take_8 : decode cX2_take 8 = .ok (.aload_n 0, 1) := by decide +kernel
theorem dX2_take_9 : decode cX2_take 9 = .ok (.aload_n 1, 1) := by decide +kernel
theorem dX2_take_10 : decode cX2_take 10 = .ok (.invokevirtual 45, 3) := by decide +kernel
theorem dX2_take_13 : decode cX2_take 13 = .ok (.putfield 15, 3) := by decide +kernel
theorem dX2_take_16 : decode cX2_take 16 = .ok (.aload_n 0, 1) := by decide +kernel
theorem dX2_take_17 : decode cX2_take 17 = .ok (.iconst 0, 1) := by decide +kernel
theorem dX2_take_18 : decode cX2_take 18 = .ok (.putfield 19, 3) := by decide +kernel
theorem dX2_take_21 : decode cX2_take 21 = .ok (.aload_n 0, 1) := by decide +kernel
theorem dX2_take_22 : decode cX2_take 22 = .ok (.iconst 0, 1) := by decide +kernel
theorem dX2_take_23 : decode cX2_take 23 = .ok (.putfield 23, 3) := by decide +kernel
theorem dX2_take_26 : decode cX2_take 26 = .ok (.aload_n 0, 1) := by decide +kernel
theorem dX2_take_27 : decode cX2_take 27 = .ok (.getfield 9, 3) := by decide +kernel
theorem dX2_take_30 : decode cX2_take 30 = .ok (.ifCond .ne 4, 3) := by decide +kernel
theorem dX2_take_33 : decode cX2_take 33 = .ok (.return_, 1) := by decide +kernel
theorem dX2_take_34 : decode cX2_take 34 = .ok (.iconst 0, 1) := by decide +kernel
theorem dX2_take_35 : decode cX2_take 35 = .ok (.istore_n 3, 1) := by decide +kernel
theorem dX2_take_36 : decode cX2_take 36 = .ok (.iload_n 3, 1) := by decide +kernel
theorem dX2_take_37 : decode cX2_take 37 = .ok (.iload_n 2, 1) := by decide +kernel
theorem dX2_take_38 : decode cX2_take 38 = .ok (.if_icmp .ge 93, 3) := by decide +kernel
theorem dX2_take_41 : decode cX2_take 41 = .ok (.aload_n 0, 1) := by decide +kernel
theorem dX2_take_42 : decode cX2_take 42 = .ok (.getfield 36, 3) := by decide +kernel
theorem dX2_take_45 : decode cX2_take 45 = .ok (.iload_n 3, 1) := by decide +kernel
theorem dX2_take_46 : decode cX2_take 46 = .ok (.aload_n 0, 1) := by decide +kernel
theorem dX2_take_47 : decode cX2_take 47 = .ok (.getfield 19, 3) := by decide +kernel
theorem dX2_take_50 : decode cX2_take 50 = .ok (.iastore, 1) := by decide +kernel
theorem dX2_take_51 : decode cX2_take 51 = .ok (.aload_n 1, 1) := by decide +kernel
theorem dX2_take_52 : decode cX2_take 52 = .ok (.iload_n 3, 1) := by decide +kernel
theorem dX2_take_53 : decode cX2_take 53 = .ok (.invokevirtual 49, 3) := by decide +kernel
theorem dX2_take_56 : decode cX2_take 56 = .ok (.ifCond .eq 38, 3) := by decide +kernel
theorem dX2_take_59 : decode cX2_take 59 = .ok (.aload_n 0, 1) := by decide +kernel
theorem dX2_take_60 : decode cX2_take 60 = .ok (.getfield 33, 3) := by decide +kernel
theorem dX2_take_63 : decode cX2_take 63 = .ok (.aload_n 0, 1) := by decide +kernel
theorem dX2_take_64 : decode cX2_take 64 = .ok (.getfield 19, 3) := by decide +kernel
theorem dX2_take_67 : decode cX2_take 67 = .ok (.aload_n 0, 1) := by decide +kernel
theorem dX2_take_68 : decode cX2_take 68 = .ok (.getfield 23, 3) := by decide +kernel
theorem dX2_take_71 : decode cX2_take 71 = .ok (.iastore, 1) := by decide +kernel
theorem dX2_take_72 : decode cX2_take 72 = .ok (.aload_n 0, 1) := by decide +kernel
theorem dX2_take_73 : decode cX2_take 73 = .ok (.dup, 1) := by decide +kernel
theorem dX2_take_74 : decode cX2_take 74 = .ok (.getfield 19, 3) := by decide +kernel
theorem dX2_take_77 : decode cX2_take 77 = .ok (.iconst 1, 1) := by decide +kernel
theorem dX2_take_78 : decode cX2_take 78 = .ok (.iadd, 1) := by decide +kernel
theorem dX2_take_79 : decode cX2_take 79 = .ok (.putfield 19, 3) := by decide +kernel
theorem dX2_take_82 : decode cX2_take 82 = .ok (.aload_n 0, 1) := by decide +kernel
theorem dX2_take_83 : decode cX2_take 83 = .ok (.getfield 26, 3) := by decide +kernel
theorem dX2_take_86 : decode cX2_take 86 = .ok (.aload_n 0, 1) := by decide +kernel
theorem dX2_take_87 : decode cX2_take 87 = .ok (.getfield 19, 3) := by decide +kernel
theorem dX2_take_90 : decode cX2_take 90 = .ok (.iload_n 3, 1) := by decide +kernel
theorem dX2_take_91 : decode cX2_take 91 = .ok (.iconst 1, 1) := by decide +kernel
theorem dX2_take_92 : decode cX2_take 92 = .ok (.iadd, 1) := by decide +kernel
theorem dX2_take_93 : decode cX2_take 93 = .ok (.iastore, 1) := by decide +kernel
theorem dX2_take_94 : decode cX2_take 94 = .ok (.aload_n 1, 1) := by decide +kernel
theorem dX2_take_95 : decode cX2_take 95 = .ok (.iload_n 3, 1) := by decide +kernel
theorem dX2_take_96 : decode cX2_take 96 = .ok (.invokevirtual 53, 3) := by decide +kernel
theorem dX2_take_99 : decode cX2_take 99 = .ok (.ifCond .eq 26, 3) := by decide +kernel
theorem dX2_take_102 : decode cX2_take 102 = .ok (.aload_n 0, 1) := by decide +kernel
theorem dX2_take_103 : decode cX2_take 103 = .ok (.dup, 1) := by decide +kernel
theorem dX2_take_104 : decode cX2_take 104 = .ok (.getfield 23, 3) := by decide +kernel
theorem dX2_take_107 : decode cX2_take 107 = .ok (.iconst 1, 1) := by decide +kernel
theorem dX2_take_108 : decode cX2_take 108 = .ok (.iadd, 1) := by decide +kernel
theorem dX2_take_109 : decode cX2_take 109 = .ok (.putfield 23, 3) := by decide +kernel
theorem dX2_take_112 : decode cX2_take 112 = .ok (.aload_n 0, 1) := by decide +kernel
theorem dX2_take_113 : decode cX2_take 113 = .ok (.getfield 30, 3) := by decide +kernel
theorem dX2_take_116 : decode cX2_take 116 = .ok (.aload_n 0, 1) := by decide +kernel
theorem dX2_take_117 : decode cX2_take 117 = .ok (.getfield 23, 3) := by decide +kernel
theorem dX2_take_120 : decode cX2_take 120 = .ok (.aload_n 0, 1) := by decide +kernel
theorem dX2_take_121 : decode cX2_take 121 = .ok (.getfield 19, 3) := by decide +kernel
theorem dX2_take_124 : decode cX2_take 124 = .ok (.iastore, 1) := by decide +kernel
theorem dX2_take_125 : decode cX2_take 125 = .ok (.iinc 3 1, 3) := by decide +kernel
theorem dX2_take_128 : decode cX2_take 128 = .ok (.goto (-92), 3) := by decide +kernel
theorem dX2_take_131 : decode cX2_take 131 = .ok (.return_, 1) := by decide +kernel
theorem dX2_lastBar_0 : decode cX2_lastBar 0 = .ok (.aload_n 0, 1) := by decide +kernel
theorem dX2_lastBar_1 : decode cX2_lastBar 1 = .ok (.getfield 26, 3) := by decide +kernel
theorem dX2_lastBar_4 : decode cX2_lastBar 4 = .ok (.iload_n 1, 1) := by decide +kernel
theorem dX2_lastBar_5 : decode cX2_lastBar 5 = .ok (.iconst 1, 1) := by decide +kernel
theorem dX2_lastBar_6 : decode cX2_lastBar 6 = .ok (.iadd, 1) := by decide +kernel
theorem dX2_lastBar_7 : decode cX2_lastBar 7 = .ok (.iaload, 1) := by decide +kernel
theorem dX2_lastBar_8 : decode cX2_lastBar 8 = .ok (.iconst 1, 1) := by decide +kernel
theorem dX2_lastBar_9 : decode cX2_lastBar 9 = .ok (.isub, 1) := by decide +kernel
theorem dX2_lastBar_10 : decode cX2_lastBar 10 = .ok (.ireturn, 1) := by decide +kernel
theorem dX2_linesOnPage_0 : decode cX2_linesOnPage 0 = .ok (.aload_n 0, 1) := by decide +kernel
theorem dX2_linesOnPage_1 : decode cX2_linesOnPage 1 = .ok (.getfield 30, 3) := by decide +kernel
theorem dX2_linesOnPage_4 : decode cX2_linesOnPage 4 = .ok (.iload_n 1, 1) := by decide +kernel
theorem dX2_linesOnPage_5 : decode cX2_linesOnPage 5 = .ok (.iconst 1, 1) := by decide +kernel
theorem dX2_linesOnPage_6 : decode cX2_linesOnPage 6 = .ok (.iadd, 1) := by decide +kernel
theorem dX2_linesOnPage_7 : decode cX2_linesOnPage 7 = .ok (.iaload, 1) := by decide +kernel
theorem dX2_linesOnPage_8 : decode cX2_linesOnPage 8 = .ok (.aload_n 0, 1) := by decide +kernel
theorem dX2_linesOnPage_9 : decode cX2_linesOnPage 9 = .ok (.getfield 30, 3) := by decide +kernel
theorem dX2_linesOnPage_12 : decode cX2_linesOnPage 12 = .ok (.iload_n 1, 1) := by decide +kernel
theorem dX2_linesOnPage_13 : decode cX2_linesOnPage 13 = .ok (.iaload, 1) := by decide +kernel
theorem dX2_linesOnPage_14 : decode cX2_linesOnPage 14 = .ok (.isub, 1) := by decide +kernel
theorem dX2_linesOnPage_15 : decode cX2_linesOnPage 15 = .ok (.ireturn, 1) := by decide +kernel
set_option maxRecDepth 20000 in
theorem ggX3_init_X3_nearest : GoodIn wsX3_init wsX3_nearest := goodIn_r _ [20, 21, 22, 23, 24, 25, 26, 27] rfl (by decide +kernel)
set_option maxRecDepth 20000 in
theorem gX3_init_X3_nearest : GoodIn wsX3_init (va_wsS RX3 11 yX3_nearest wsX3_nearest) := goodIn_app (goodIn_of _ (by decide +kernel)) ggX3_init_X3_nearest
set_option maxRecDepth 20000 in
theorem ggX3_init_X0_init : GoodIn wsX3_init wsX0_init := goodIn_r _ [30, 31, 2, 3, 32, 33, 34, 35, 36, 37, 38, 39, 40, 41, 67, 68, 69, 70, 71, 72, 73, 74] rfl (by decide +kernel)
set_option maxRecDepth 20000 in
theorem gX3_init_X0_init : GoodIn wsX3_init (wsX0_init) := ggX3_init_X0_init
set_option maxRecDepth 20000 in
theorem ggX3_init_X1_init : GoodIn wsX3_init wsX1_init := goodIn_r _ [44, 45, 2, 3, 46, 47, 48, 49, 50, 51, 52, 53, 54, 79, 80, 81, 82, 83, 84, 85] rfl (by decide +kernel)
set_option maxRecDepth 20000 in
theorem gX3_init_X1_init : GoodIn wsX3_init (wsX1_init) := ggX3_init_X1_init
set_option maxRecDepth 20000 in
theorem ggX3_init_X2_init : GoodIn wsX3_init wsX2_init := goodIn_r _ [57, 58, 2, 3, 59, 60, 61, 62, 36, 63, 64, 65, 66, 86, 87, 88, 89, 90, 91, 92, 93] rfl (by decide +kernel)
set_option maxRecDepth 20000 in
theorem gX3_init_X2_init : GoodIn wsX3_init (wsX2_init) := ggX3_init_X2_init
theorem dX3_init_0 : decode cX3_init 0 = .ok (.aload_n 0, 1) := by decide +kernel
theorem dX3_init_1 : decode cX3_init 1 = .ok (.invokespecial 1, 3) := by decide +kernel
theorem dX3_init_4 : decode cX3_init 4 = .ok (.aload_n 0, 1) := by decide +kernel
theorem dX3_init_5 : decode cX3_init 5 = .ok (.new 7, 3) := by decide +kernel
theorem dX3_init_8 : decode cX3_init 8 = .ok (.dup, 1) := by decide +kernel
theorem dX3_init_9 : decode cX3_init 9 = .ok (.iload_n 1, 1) := by decide +kernel
theorem dX3_init_10 : decode cX3_init 10 = .ok (.bipush 100, 2) := by decide +kernel
theorem dX3_init_12 : decode cX3_init 12 = .ok (.sipush 5000, 3) := by decide +kernel
theorem dX3_init_15 : decode cX3_init 15 = .ok (.invokestatic 11, 3) := by decide +kernel
theorem dX3_init_18 : decode cX3_init 18 = .ok (.iload_n 2, 1) := by decide +kernel
theorem dX3_init_19 : decode cX3_init 19 = .ok (.iconst 1, 1) := by decide +kernel
theorem dX3_init_20 : decode cX3_init 20 = .ok (.bipush 8, 2) := by decide +kernel
theorem dX3_init_22 : decode cX3_init 22 = .ok (.invokestatic 11, 3) := by decide +kernel
theorem dX3_init_25 : decode cX3_init 25 = .ok (.invokespecial 15, 3) := by decide +kernel
theorem dX3_init_28 : decode cX3_init 28 = .ok (.putfield 18, 3) := by decide +kernel
theorem dX3_init_31 : decode cX3_init 31 = .ok (.aload_n 0, 1) := by decide +kernel
theorem dX3_init_32 : decode cX3_init 32 = .ok (.new 22, 3) := by decide +kernel
theorem dX3_init_35 : decode cX3_init 35 = .ok (.dup, 1) := by decide +kernel
theorem dX3_init_36 : decode cX3_init 36 = .ok (.aload_n 0, 1) := by decide +kernel
theorem dX3_init_37 : decode cX3_init 37 = .ok (.getfield 18, 3) := by decide +kernel
theorem dX3_init_40 : decode cX3_init 40 = .ok (.invokespecial 24, 3) := by decide +kernel
theorem dX3_init_43 : decode cX3_init 43 = .ok (.putfield 27, 3) := by decide +kernel
theorem dX3_init_46 : decode cX3_init 46 = .ok (.aload_n 0, 1) := by decide +kernel
theorem dX3_init_47 : decode cX3_init 47 = .ok (.new 31, 3) := by decide +kernel
theorem dX3_init_50 : decode cX3_init 50 = .ok (.dup, 1) := by decide +kernel
theorem dX3_init_51 : decode cX3_init 51 = .ok (.invokespecial 33, 3) := by decide +kernel
theorem dX3_init_54 : decode cX3_init 54 = .ok (.putfield 34, 3) := by decide +kernel
theorem dX3_init_57 : decode cX3_init 57 = .ok (.aload_n 0, 1) := by decide +kernel
theorem dX3_init_58 : decode cX3_init 58 = .ok (.iconst 0, 1) := by decide +kernel
theorem dX3_init_59 : decode cX3_init 59 = .ok (.putfield 38, 3) := by decide +kernel
theorem dX3_init_62 : decode cX3_init 62 = .ok (.return_, 1) := by decide +kernel
set_option maxRecDepth 20000 in
theorem ggX3_bar_X3_areWidths : GoodIn wsX3_bar wsX3_areWidths := goodIn_r _ [7, 8, 9, 6, 10] rfl (by decide +kernel)
set_option maxRecDepth 20000 in
theorem gX3_bar_X3_areWidths : GoodIn wsX3_bar (va_wsS RX3 42 yX3_areWidths wsX3_areWidths) := goodIn_app (goodIn_of _ (by decide +kernel)) ggX3_bar_X3_areWidths
set_option maxRecDepth 20000 in
theorem ggX3_bar_X0_addBar : GoodIn wsX3_bar wsX0_addBar := goodIn_r _ [15, 16, 17, 18, 23, 24, 25, 26, 27, 28, 29, 30] rfl (by decide +kernel)
set_option maxRecDepth 20000 in
theorem gX3_bar_X0_addBar : GoodIn wsX3_bar (wsV RX3 50 RX0 yX0_addBar wsX0_addBar) := goodIn_app (goodIn_of _ (by decide +kernel)) ggX3_bar_X0_addBar
theorem dX3_bar_0 : decode cX3_bar 0 = .ok (.iload_n 1, 1) := by decide +kernel
theorem dX3_bar_1 : decode cX3_bar 1 = .ok (.iload_n 2, 1) := by decide +kernel
theorem dX3_bar_2 : decode cX3_bar 2 = .ok (.invokestatic 42, 3) := by decide +kernel
theorem dX3_bar_5 : decode cX3_bar 5 = .ok (.ifCond .ne 6, 3) := by decide +kernel
theorem dX3_bar_8 : decode cX3_bar 8 = .ok (.bipush (-2), 2) := by decide +kernel
theorem dX3_bar_10 : decode cX3_bar 10 = .ok (.ireturn, 1) := by decide +kernel
theorem dX3_bar_11 : decode cX3_bar 11 = .ok (.aload_n 0, 1) := by decide +kernel
theorem dX3_bar_12 : decode cX3_bar 12 = .ok (.getfield 18, 3) := by decide +kernel
theorem dX3_bar_15 : decode cX3_bar 15 = .ok (.getfield 46, 3) := by decide +kernel
theorem dX3_bar_18 : decode cX3_bar 18 = .ok (.bipush 24, 2) := by decide +kernel
theorem dX3_bar_20 : decode cX3_bar 20 = .ok (.if_icmp .lt 6, 3) := by decide +kernel
theorem dX3_bar_23 : decode cX3_bar 23 = .ok (.bipush (-4), 2) := by decide +kernel
theorem dX3_bar_25 : decode cX3_bar 25 = .ok (.ireturn, 1) := by decide +kernel
theorem dX3_bar_26 : decode cX3_bar 26 = .ok (.aload_n 0, 1) := by decide +kernel
theorem dX3_bar_27 : decode cX3_bar 27 = .ok (.iconst 0, 1) := by decide +kernel
theorem dX3_bar_28 : decode cX3_bar 28 = .ok (.putfield 38, 3) := by decide +kernel
theorem dX3_bar_31 : decode cX3_bar 31 = .ok (.aload_n 0, 1) := by decide +kernel
theorem dX3_bar_32 : decode cX3_bar 32 = .ok (.getfield 18, 3) := by decide +kernel
theorem dX3_bar_35 : decode cX3_bar 35 = .ok (.iload_n 1, 1) := by decide +kernel
theorem dX3_bar_36 : decode cX3_bar 36 = .ok (.iload_n 2, 1) := by decide +kernel
theorem dX3_bar_37 : decode cX3_bar 37 = .ok (.invokevirtual 50, 3) := by decide +kernel
theorem dX3_bar_40 : decode cX3_bar 40 = .ok (.ireturn, 1) := by decide +kernel
set_option maxRecDepth 20000 in
theorem ggX3_change_X0_hasBar : GoodIn wsX3_change wsX0_hasBar := goodIn_r _ [7, 8, 34, 35, 36, 37, 38, 39, 40, 41] rfl (by decide +kernel)
set_option maxRecDepth 20000 in
theorem gX3_change_X0_hasBar : GoodIn wsX3_change (wsV RX3 54 RX0 yX0_hasBar wsX0_hasBar) := goodIn_app (goodIn_of _ (by decide +kernel)) ggX3_change_X0_hasBar
set_option maxRecDepth 20000 in
theorem ggX3_change_X3_areWidths : GoodIn wsX3_change wsX3_areWidths := goodIn_r _ [12, 13, 14, 11, 15] rfl (by decide +kernel)
set_option maxRecDepth 20000 in
theorem gX3_change_X3_areWidths : GoodIn wsX3_change (va_wsS RX3 42 yX3_areWidths wsX3_areWidths) := goodIn_app (goodIn_of _ (by decide +kernel)) ggX3_change_X3_areWidths
set_option maxRecDepth 20000 in
theorem ggX3_change_X0_putWidths : GoodIn wsX3_change wsX0_putWidths := goodIn_r _ [19, 8, 20, 21, 22, 23, 24, 6, 25, 26, 27, 28, 29, 34, 35, 36, 37, 38, 39, 40, 41] rfl (by decide +kernel)
set_option maxRecDepth 20000 in
theorem gX3_change_X0_putWidths : GoodIn wsX3_change (wsV RX3 58 RX0 yX0_putWidths wsX0_putWidths) := goodIn_app (goodIn_of _ (by decide +kernel)) ggX3_change_X0_putWidths
theorem dX3_change_0 : decode cX3_change 0 = .ok (.aload_n 0, 1) := by decide +kernel
theorem dX3_change_1 : decode cX3_change 1 = .ok (.getfield 18, 3) := by decide +kernel
theorem dX3_change_4 : decode cX3_change 4 = .ok (.iload_n 1, 1) := by decide +kernel
theorem dX3_change_5 : decode cX3_change 5 = .ok (.invokevirtual 54, 3) := by decide +kernel
theorem dX3_change_8 : decode cX3_change 8 = .ok (.ifCond .ne 5, 3) := by decide +kernel
theorem dX3_change_11 : decode cX3_change 11 = .ok (.iconst (-1), 1) := by decide +kernel
theorem dX3_change_12 : decode cX3_change 12 = .ok (.ireturn, 1) := by decide +kernel
theorem dX3_change_13 : decode cX3_change 13 = .ok (.iload_n 2, 1) := by decide +kernel
theorem dX3_change_14 : decode cX3_change 14 = .ok (.iload_n 3, 1) := by decide +kernel
theorem dX3_change_15 : decode cX3_change 15 = .ok (.invokestatic 42, 3) := by decide +kernel
theorem dX3_change_18 : decode cX3_change 18 = .ok (.ifCond .ne 6, 3) := by decide +kernel
theorem dX3_change_21 : decode cX3_change 21 = .ok (.bipush (-2), 2) := by decide +kernel
theorem dX3_change_23 : decode cX3_change 23 = .ok (.ireturn, 1) := by decide +kernel
theorem dX3_change_24 : decode cX3_change 24 = .ok (.aload_n 0, 1) := by decide +kernel
theorem dX3_change_25 : decode cX3_change 25 = .ok (.iconst 0, 1) := by decide +kernel
theorem dX3_change_26 : decode cX3_change 26 = .ok (.putfield 38, 3) := by decide +kernel
theorem dX3_change_29 : decode cX3_change 29 = .ok (.aload_n 0, 1) := by decide +kernel
theorem dX3_change_30 : decode cX3_change 30 = .ok (.getfield 18, 3) := by decide +kernel
theorem dX3_change_33 : decode cX3_change 33 = .ok (.iload_n 1, 1) := by decide +kernel
theorem dX3_change_34 : decode cX3_change 34 = .ok (.iload_n 2, 1) := by decide +kernel
theorem dX3_change_35 : decode cX3_change 35 = .ok (.iload_n 3, 1) := by decide +kernel
theorem dX3_change_36 : decode cX3_change 36 = .ok (.invokevirtual 58, 3) := by decide +kernel
theorem dX3_change_39 : decode cX3_change 39 = .ok (.iconst 1, 1) := by decide +kernel
theorem dX3_change_40 : decode cX3_change 40 = .ok (.ireturn, 1) := by decide +kernel
set_option maxRecDepth 20000 in
theorem ggX3_mark_X0_hasBar : GoodIn wsX3_mark wsX0_hasBar := goodIn_r _ [7, 8, 26, 27, 28, 29, 30, 31, 32, 33] rfl (by decide +kernel)
set_option maxRecDepth 20000 in
theorem gX3_mark_X0_hasBar : GoodIn wsX3_mark (wsV RX3 54 RX0 yX0_hasBar wsX0_hasBar) := goodIn_app (goodIn_of _ (by decide +kernel)) ggX3_mark_X0_hasBar
set_option maxRecDepth 20000 in
theorem ggX3_mark_X3_isWithin : GoodIn wsX3_mark wsX3_isWithin := goodIn_r _ [12] rfl (by decide +kernel)
set_option maxRecDepth 20000 in
theorem gX3_mark_X3_isWithin : GoodIn wsX3_mark (va_wsS RX3 62 yX3_isWithin wsX3_isWithin) := goodIn_app (goodIn_of _ (by decide +kernel)) ggX3_mark_X3_isWithin
set_option maxRecDepth 20000 in
theorem ggX3_mark_X0_isMarked : GoodIn wsX3_mark wsX0_isMarked := goodIn_r _ [16, 17, 26, 27, 28, 29, 30, 31, 32, 33] rfl (by decide +kernel)
set_option maxRecDepth 20000 in
theorem gX3_mark_X0_isMarked : GoodIn wsX3_mark (wsV RX3 66 RX0 yX0_isMarked wsX0_isMarked) := goodIn_app (goodIn_of _ (by decide +kernel)) ggX3_mark_X0_isMarked
set_option maxRecDepth 20000 in
theorem ggX3_mark_X0_putMark : GoodIn wsX3_mark wsX0_putMark := goodIn_r _ [21, 17, 26, 27, 28, 29, 30, 31, 32, 33] rfl (by decide +kernel)
set_option maxRecDepth 20000 in
theorem gX3_mark_X0_putMark : GoodIn wsX3_mark (wsV RX3 69 RX0 yX0_putMark wsX0_putMark) := goodIn_app (goodIn_of _ (by decide +kernel)) ggX3_mark_X0_putMark
theorem dX3_mark_0 : decode cX3_mark 0 = .ok (.aload_n 0, 1) := by decide +kernel
theorem dX3_mark_1 : decode cX3_mark 1 = .ok (.getfield 18, 3) := by decide +kernel
theorem dX3_mark_4 : decode cX3_mark 4 = .ok (.iload_n 1, 1) := by decide +kernel
theorem dX3_mark_5 : decode cX3_mark 5 = .ok (.invokevirtual 54, 3) := by decide +kernel
theorem dX3_mark_8 : decode cX3_mark 8 = .ok (.ifCond .ne 5, 3) := by decide +kernel
theorem dX3_mark_11 : decode cX3_mark 11 = .ok (.iconst (-1), 1) := by decide +kernel
theorem dX3_mark_12 : decode cX3_mark 12 = .ok (.ireturn, 1) := by decide +kernel
theorem dX3_mark_13 : decode cX3_mark 13 = .ok (.iload_n 2, 1) := by decide +kernel
theorem dX3_mark_14 : decode cX3_mark 14 = .ok (.iconst 0, 1) := by decide +kernel
theorem dX3_mark_15 : decode cX3_mark 15 = .ok (.iconst 2, 1) := by decide +kernel
theorem dX3_mark_16 : decode cX3_mark 16 = .ok (.invokestatic 62, 3) := by decide +kernel
theorem dX3_mark_19 : decode cX3_mark 19 = .ok (.ifCond .ne 6, 3) := by decide +kernel
theorem dX3_mark_22 : decode cX3_mark 22 = .ok (.bipush (-2), 2) := by decide +kernel
theorem dX3_mark_24 : decode cX3_mark 24 = .ok (.ireturn, 1) := by decide +kernel
theorem dX3_mark_25 : decode cX3_mark 25 = .ok (.aload_n 0, 1) := by decide +kernel
theorem dX3_mark_26 : decode cX3_mark 26 = .ok (.iconst 0, 1) := by decide +kernel
theorem dX3_mark_27 : decode cX3_mark 27 = .ok (.putfield 38, 3) := by decide +kernel
theorem dX3_mark_30 : decode cX3_mark 30 = .ok (.aload_n 0, 1) := by decide +kernel
theorem dX3_mark_31 : decode cX3_mark 31 = .ok (.getfield 18, 3) := by decide +kernel
theorem dX3_mark_34 : decode cX3_mark 34 = .ok (.iload_n 1, 1) := by decide +kernel
theorem dX3_mark_35 : decode cX3_mark 35 = .ok (.iload_n 2, 1) := by decide +kernel
theorem dX3_mark_36 : decode cX3_mark 36 = .ok (.invokevirtual 66, 3) := by decide +kernel
theorem dX3_mark_39 : decode cX3_mark 39 = .ok (.istore 4, 2) := by decide +kernel
theorem dX3_mark_41 : decode cX3_mark 41 = .ok (.aload_n 0, 1) := by decide +kernel
theorem dX3_mark_42 : decode cX3_mark 42 = .ok (.getfield 18, 3) := by decide +kernel
theorem dX3_mark_45 : decode cX3_mark 45 = .ok (.iload_n 1, 1) := by decide +kernel
theorem dX3_mark_46 : decode cX3_mark 46 = .ok (.iload_n 2, 1) := by decide +kernel
theorem dX3_mark_47 : decode cX3_mark 47 = .ok (.iload_n 3, 1) := by decide +kernel
theorem dX3_mark_48 : decode cX3_mark 48 = .ok (.invokevirtual 69, 3) := by decide +kernel
theorem dX3_mark_51 : decode cX3_mark 51 = .ok (.iload 4, 2) := by decide +kernel
theorem dX3_mark_53 : decode cX3_mark 53 = .ok (.ifCond .eq 7, 3) := by decide +kernel
theorem dX3_mark_56 : decode cX3_mark 56 = .ok (.iconst 1, 1) := by decide +kernel
theorem dX3_mark_57 : decode cX3_mark 57 = .ok (.goto 4, 3) := by decide +kernel
theorem dX3_mark_60 : decode cX3_mark 60 = .ok (.iconst 0, 1) := by decide +kernel
theorem dX3_mark_61 : decode cX3_mark 61 = .ok (.ireturn, 1) := by decide +kernel
set_option maxRecDepth 20000 in
theorem ggX3_cost_X3_isWithin : GoodIn wsX3_cost wsX3_isWithin := goodIn_r _ [8] rfl (by decide +kernel)
set_option maxRecDepth 20000 in
theorem gX3_cost_X3_isWithin : GoodIn wsX3_cost (va_wsS RX3 62 yX3_isWithin wsX3_isWithin) := goodIn_app (goodIn_of _ (by decide +kernel)) ggX3_cost_X3_isWithin
theorem dX3_cost_0 : decode cX3_cost 0 = .ok (.iload_n 1, 1) := by decide +kernel
theorem dX3_cost_1 : decode cX3_cost 1 = .ok (.iconst 0, 1) := by decide +kernel
theorem dX3_cost_2 : decode cX3_cost 2 = .ok (.iconst 4, 1) := by decide +kernel
theorem dX3_cost_3 : decode cX3_cost 3 = .ok (.invokestatic 62, 3) := by decide +kernel
theorem dX3_cost_6 : decode cX3_cost 6 = .ok (.ifCond .eq 13, 3) := by decide +kernel
theorem dX3_cost_9 : decode cX3_cost 9 = .ok (.iload_n 2, 1) := by decide +kernel
theorem dX3_cost_10 : decode cX3_cost 10 = .ok (.iconst 0, 1) := by decide +kernel
theorem dX3_cost_11 : decode cX3_cost 11 = .ok (.ldc 73, 2) := by decide +kernel
theorem dX3_cost_13 : decode cX3_cost 13 = .ok (.invokestatic 62, 3) := by decide +kernel
theorem dX3_cost_16 : decode cX3_cost 16 = .ok (.ifCond .ne 6, 3) := by decide +kernel
theorem dX3_cost_19 : decode cX3_cost 19 = .ok (.bipush (-2), 2) := by decide +kernel
theorem dX3_cost_21 : decode cX3_cost 21 = .ok (.ireturn, 1) := by decide +kernel
theorem dX3_cost_22 : decode cX3_cost 22 = .ok (.aload_n 0, 1) := by decide +kernel
theorem dX3_cost_23 : decode cX3_cost 23 = .ok (.iconst 0, 1) := by decide +kernel
theorem dX3_cost_24 : decode cX3_cost 24 = .ok (.putfield 38, 3) := by decide +kernel
theorem dX3_cost_27 : decode cX3_cost 27 = .ok (.aload_n 0, 1) := by decide +kernel
theorem dX3_cost_28 : decode cX3_cost 28 = .ok (.getfield 18, 3) := by decide +kernel
theorem dX3_cost_31 : decode cX3_cost 31 = .ok (.getfield 74, 3) := by decide +kernel
theorem dX3_cost_34 : decode cX3_cost 34 = .ok (.iload_n 1, 1) := by decide +kernel
theorem dX3_cost_35 : decode cX3_cost 35 = .ok (.iaload, 1) := by decide +kernel
