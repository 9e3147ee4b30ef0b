theorem dX0_init_0 : decode cX0_init 0 = .ok (.aload_n 0, 1) := by decide +kernel
theorem dX0_init_1 : decode cX0_init 1 = .ok (.invokespecial 3, 3) := by decide +kernel
theorem dX0_init_4 : decode cX0_init 4 = .ok (.aload_n 0, 1) := by decide +kernel
theorem dX0_init_5 : decode cX0_init 5 = .ok (.iconst 0, 1) := by decide +kernel
theorem dX0_init_6 : decode cX0_init 6 = .ok (.putfield 9, 3) := by decide +kernel
theorem dX0_init_9 : decode cX0_init 9 = .ok (.aload_n 0, 1) := by decide +kernel
theorem dX0_init_10 : decode cX0_init 10 = .ok (.iload_n 1, 1) := by decide +kernel
theorem dX0_init_11 : decode cX0_init 11 = .ok (.putfield 15, 3) := by decide +kernel
theorem dX0_init_14 : decode cX0_init 14 = .ok (.aload_n 0, 1) := by decide +kernel
theorem dX0_init_15 : decode cX0_init 15 = .ok (.iload_n 2, 1) := by decide +kernel
theorem dX0_init_16 : decode cX0_init 16 = .ok (.putfield 18, 3) := by decide +kernel
theorem dX0_init_19 : decode cX0_init 19 = .ok (.aload_n 0, 1) := by decide +kernel
theorem dX0_init_20 : decode cX0_init 20 = .ok (.iconst 0, 1) := by decide +kernel
theorem dX0_init_21 : decode cX0_init 21 = .ok (.putfield 21, 3) := by decide +kernel
theorem dX0_init_24 : decode cX0_init 24 = .ok (.aload_n 0, 1) := by decide +kernel
theorem dX0_init_25 : decode cX0_init 25 = .ok (.iconst 5, 1) := by decide +kernel
theorem dX0_init_26 : decode cX0_init 26 = .ok (.newarray .int, 2) := by decide +kernel
theorem dX0_init_28 : decode cX0_init 28 = .ok (.putfield 24, 3) := by decide +kernel
theorem dX0_init_31 : decode cX0_init 31 = .ok (.aload_n 0, 1) := by decide +kernel
theorem dX0_init_32 : decode cX0_init 32 = .ok (.getfield 24, 3) := by decide +kernel
theorem dX0_init_35 : decode cX0_init 35 = .ok (.iconst 0, 1) := by decide +kernel
theorem dX0_init_36 : decode cX0_init 36 = .ok (.iconst 4, 1) := by decide +kernel
theorem dX0_init_37 : decode cX0_init 37 = .ok (.iastore, 1) := by decide +kernel
theorem dX0_init_38 : decode cX0_init 38 = .ok (.aload_n 0, 1) := by decide +kernel
theorem dX0_init_39 : decode cX0_init 39 = .ok (.getfield 24, 3) := by decide +kernel
theorem dX0_init_42 : decode cX0_init 42 = .ok (.iconst 1, 1) := by decide +kernel
theorem dX0_init_43 : decode cX0_init 43 = .ok (.sipush 1000, 3) := by decide +kernel
theorem dX0_init_46 : decode cX0_init 46 = .ok (.iastore, 1) := by decide +kernel
theorem dX0_init_47 : decode cX0_init 47 = .ok (.aload_n 0, 1) := by decide +kernel
theorem dX0_init_48 : decode cX0_init 48 = .ok (.getfield 24, 3) := by decide +kernel
theorem dX0_init_51 : decode cX0_init 51 = .ok (.iconst 2, 1) := by decide +kernel
theorem dX0_init_52 : decode cX0_init 52 = .ok (.sipush 500, 3) := by decide +kernel
theorem dX0_init_55 : decode cX0_init 55 = .ok (.iastore, 1) := by decide +kernel
theorem dX0_init_56 : decode cX0_init 56 = .ok (.aload_n 0, 1) := by decide +kernel
theorem dX0_init_57 : decode cX0_init 57 = .ok (.getfield 24, 3) := by decide +kernel
theorem dX0_init_60 : decode cX0_init 60 = .ok (.iconst 3, 1) := by decide +kernel
theorem dX0_init_61 : decode cX0_init 61 = .ok (.ldc 28, 2) := by decide +kernel
theorem dX0_init_63 : decode cX0_init 63 = .ok (.iastore, 1) := by decide +kernel
theorem dX0_init_64 : decode cX0_init 64 = .ok (.aload_n 0, 1) := by decide +kernel
theorem dX0_init_65 : decode cX0_init 65 = .ok (.getfield 24, 3) := by decide +kernel
theorem dX0_init_68 : decode cX0_init 68 = .ok (.iconst 4, 1) := by decide +kernel
theorem dX0_init_69 : decode cX0_init 69 = .ok (.iconst 1, 1) := by decide +kernel
theorem dX0_init_70 : decode cX0_init 70 = .ok (.iastore, 1) := by decide +kernel
theorem dX0_init_71 : decode cX0_init 71 = .ok (.aload_n 0, 1) := by decide +kernel
theorem dX0_init_72 : decode cX0_init 72 = .ok (.iconst 3, 1) := by decide +kernel
theorem dX0_init_73 : decode cX0_init 73 = .ok (.newarray .int, 2) := by decide +kernel
theorem dX0_init_75 : decode cX0_init 75 = .ok (.putfield 29, 3) := by decide +kernel
theorem dX0_init_78 : decode cX0_init 78 = .ok (.aload_n 0, 1) := by decide +kernel
theorem dX0_init_79 : decode cX0_init 79 = .ok (.bipush 25, 2) := by decide +kernel
theorem dX0_init_81 : decode cX0_init 81 = .ok (.newarray .int, 2) := by decide +kernel
theorem dX0_init_83 : decode cX0_init 83 = .ok (.putfield 32, 3) := by decide +kernel
theorem dX0_init_86 : decode cX0_init 86 = .ok (.aload_n 0, 1) := by decide +kernel
theorem dX0_init_87 : decode cX0_init 87 = .ok (.bipush 25, 2) := by decide +kernel
theorem dX0_init_89 : decode cX0_init 89 = .ok (.newarray .int, 2) := by decide +kernel
theorem dX0_init_91 : decode cX0_init 91 = .ok (.putfield 35, 3) := by decide +kernel
theorem dX0_init_94 : decode cX0_init 94 = .ok (.return_, 1) := by decide +kernel
theorem dX0_hasBar_0 : decode cX0_hasBar 0 = .ok (.iload_n 1, 1) := by decide +kernel
theorem dX0_hasBar_1 : decode cX0_hasBar 1 = .ok (.ifCond .lt 15, 3) := by decide +kernel
theorem dX0_hasBar_4 : decode cX0_hasBar 4 = .ok (.iload_n 1, 1) := by decide +kernel
theorem dX0_hasBar_5 : decode cX0_hasBar 5 = .ok (.aload_n 0, 1) := by decide +kernel
theorem dX0_hasBar_6 : decode cX0_hasBar 6 = .ok (.getfield 9, 3) := by decide +kernel
theorem dX0_hasBar_9 : decode cX0_hasBar 9 = .ok (.if_icmp .ge 7, 3) := by decide +kernel
theorem dX0_hasBar_12 : decode cX0_hasBar 12 = .ok (.iconst 1, 1) := by decide +kernel
theorem dX0_hasBar_13 : decode cX0_hasBar 13 = .ok (.goto 4, 3) := by decide +kernel
theorem dX0_hasBar_16 : decode cX0_hasBar 16 = .ok (.iconst 0, 1) := by decide +kernel
theorem dX0_hasBar_17 : decode cX0_hasBar 17 = .ok (.ireturn, 1) := by decide +kernel
theorem dX0_addBar_0 : decode cX0_addBar 0 = .ok (.aload_n 0, 1) := by decide +kernel
theorem dX0_addBar_1 : decode cX0_addBar 1 = .ok (.getfield 9, 3) := by decide +kernel
theorem dX0_addBar_4 : decode cX0_addBar 4 = .ok (.istore_n 3, 1) := by decide +kernel
theorem dX0_addBar_5 : decode cX0_addBar 5 = .ok (.aload_n 0, 1) := by decide +kernel
theorem dX0_addBar_6 : decode cX0_addBar 6 = .ok (.getfield 32, 3) := by decide +kernel
theorem dX0_addBar_9 : decode cX0_addBar 9 = .ok (.iload_n 3, 1) := by decide +kernel
theorem dX0_addBar_10 : decode cX0_addBar 10 = .ok (.iconst 1, 1) := by decide +kernel
theorem dX0_addBar_11 : decode cX0_addBar 11 = .ok (.iadd, 1) := by decide +kernel
theorem dX0_addBar_12 : decode cX0_addBar 12 = .ok (.aload_n 0, 1) := by decide +kernel
theorem dX0_addBar_13 : decode cX0_addBar 13 = .ok (.getfield 32, 3) := by decide +kernel
theorem dX0_addBar_16 : decode cX0_addBar 16 = .ok (.iload_n 3, 1) := by decide +kernel
theorem dX0_addBar_17 : decode cX0_addBar 17 = .ok (.iaload, 1) := by decide +kernel
theorem dX0_addBar_18 : decode cX0_addBar 18 = .ok (.iload_n 1, 1) := by decide +kernel
theorem dX0_addBar_19 : decode cX0_addBar 19 = .ok (.iadd, 1) := by decide +kernel
theorem dX0_addBar_20 : decode cX0_addBar 20 = .ok (.iastore, 1) := by decide +kernel
theorem dX0_addBar_21 : decode cX0_addBar 21 = .ok (.aload_n 0, 1) := by decide +kernel
theorem dX0_addBar_22 : decode cX0_addBar 22 = .ok (.getfield 35, 3) := by decide +kernel
theorem dX0_addBar_25 : decode cX0_addBar 25 = .ok (.iload_n 3, 1) := by decide +kernel
theorem dX0_addBar_26 : decode cX0_addBar 26 = .ok (.iconst 1, 1) := by decide +kernel
theorem dX0_addBar_27 : decode cX0_addBar 27 = .ok (.iadd, 1) := by decide +kernel
theorem dX0_addBar_28 : decode cX0_addBar 28 = .ok (.aload_n 0, 1) := by decide +kernel
theorem dX0_addBar_29 : decode cX0_addBar 29 = .ok (.getfield 35, 3) := by decide +kernel
theorem dX0_addBar_32 : decode cX0_addBar 32 = .ok (.iload_n 3, 1) := by decide +kernel
theorem dX0_addBar_33 : decode cX0_addBar 33 = .ok (.iaload, 1) := by decide +kernel
theorem dX0_addBar_34 : decode cX0_addBar 34 = .ok (.iload_n 2, 1) := by decide +kernel
theorem dX0_addBar_35 : decode cX0_addBar 35 = .ok (.iadd, 1) := by decide +kernel
theorem dX0_addBar_36 : decode cX0_addBar 36 = .ok (.iastore, 1) := by decide +kernel
theorem dX0_addBar_37 : decode cX0_addBar 37 = .ok (.aload_n 0, 1) := by decide +kernel
theorem dX0_addBar_38 : decode cX0_addBar 38 = .ok (.iload_n 3, 1) := by decide +kernel
theorem dX0_addBar_39 : decode cX0_addBar 39 = .ok (.iconst 1, 1) := by decide +kernel
theorem dX0_addBar_40 : decode cX0_addBar 40 = .ok (.iadd, 1) := by decide +kernel
theorem dX0_addBar_41 : decode cX0_addBar 41 = .ok (.putfield 9, 3) := by decide +kernel
theorem dX0_addBar_44 : decode cX0_addBar 44 = .ok (.iload_n 3, 1) := by decide +kernel
theorem dX0_addBar_45 : decode cX0_addBar 45 = .ok (.ireturn, 1) := by decide +kernel
set_option maxRecDepth 20000 in
theorem ggX0_putWidths_X0_leastOf : GoodIn wsX0_putWidths wsX0_leastOf := goodIn_r _ [8, 2, 13, 14, 15, 16, 17, 18, 19, 20] rfl (by decide +kernel)
set_option maxRecDepth 20000 in
theorem gX0_putWidths_X0_leastOf : GoodIn wsX0_putWidths (wsV RX0 38 RX0 yX0_leastOf wsX0_leastOf) := goodIn_app (goodIn_of _ (by decide +kernel)) ggX0_putWidths_X0_leastOf
set_option maxRecDepth 20000 in
theorem ggX0_putWidths_X0_wishedOf : GoodIn wsX0_putWidths wsX0_wishedOf := goodIn_r _ [12, 3, 13, 14, 15, 16, 17, 18, 19, 20] rfl (by decide +kernel)
set_option maxRecDepth 20000 in
theorem gX0_putWidths_X0_wishedOf : GoodIn wsX0_putWidths (wsV RX0 42 RX0 yX0_wishedOf wsX0_wishedOf) := goodIn_app (goodIn_of _ (by decide +kernel)) ggX0_putWidths_X0_wishedOf
theorem dX0_putWidths_0 : decode cX0_putWidths 0 = .ok (.iload_n 2, 1) := by decide +kernel
theorem dX0_putWidths_1 : decode cX0_putWidths 1 = .ok (.aload_n 0, 1) := by decide +kernel
theorem dX0_putWidths_2 : decode cX0_putWidths 2 = .ok (.iload_n 1, 1) := by decide +kernel
theorem dX0_putWidths_3 : decode cX0_putWidths 3 = .ok (.iload_n 1, 1) := by decide +kernel
theorem dX0_putWidths_4 : decode cX0_putWidths 4 = .ok (.invokevirtual 38, 3) := by decide +kernel
theorem dX0_putWidths_7 : decode cX0_putWidths 7 = .ok (.isub, 1) := by decide +kernel
theorem dX0_putWidths_8 : decode cX0_putWidths 8 = .ok (.istore 4, 2) := by decide +kernel
theorem dX0_putWidths_10 : decode cX0_putWidths 10 = .ok (.iload_n 3, 1) := by decide +kernel
theorem dX0_putWidths_11 : decode cX0_putWidths 11 = .ok (.aload_n 0, 1) := by decide +kernel
theorem dX0_putWidths_12 : decode cX0_putWidths 12 = .ok (.iload_n 1, 1) := by decide +kernel
theorem dX0_putWidths_13 : decode cX0_putWidths 13 = .ok (.iload_n 1, 1) := by decide +kernel
theorem dX0_putWidths_14 : decode cX0_putWidths 14 = .ok (.invokevirtual 42, 3) := by decide +kernel
theorem dX0_putWidths_17 : decode cX0_putWidths 17 = .ok (.isub, 1) := by decide +kernel
theorem dX0_putWidths_18 : decode cX0_putWidths 18 = .ok (.istore 5, 2) := by decide +kernel
theorem dX0_putWidths_20 : decode cX0_putWidths 20 = .ok (.iload_n 1, 1) := by decide +kernel
theorem dX0_putWidths_21 : decode cX0_putWidths 21 = .ok (.iconst 1, 1) := by decide +kernel
theorem dX0_putWidths_22 : decode cX0_putWidths 22 = .ok (.iadd, 1) := by decide +kernel
theorem dX0_putWidths_23 : decode cX0_putWidths 23 = .ok (.istore 6, 2) := by decide +kernel
theorem dX0_putWidths_25 : decode cX0_putWidths 25 = .ok (.iload 6, 2) := by decide +kernel
theorem dX0_putWidths_27 : decode cX0_putWidths 27 = .ok (.aload_n 0, 1) := by decide +kernel
theorem dX0_putWidths_28 : decode cX0_putWidths 28 = .ok (.getfield 9, 3) := by decide +kernel
theorem dX0_putWidths_31 : decode cX0_putWidths 31 = .ok (.if_icmp .gt 33, 3) := by decide +kernel
theorem dX0_putWidths_34 : decode cX0_putWidths 34 = .ok (.aload_n 0, 1) := by decide +kernel
theorem dX0_putWidths_35 : decode cX0_putWidths 35 = .ok (.getfield 32, 3) := by decide +kernel
theorem dX0_putWidths_38 : decode cX0_putWidths 38 = .ok (.iload 6, 2) := by decide +kernel
theorem dX0_putWidths_40 : decode cX0_putWidths 40 = .ok (.dup2, 1) := by decide +kernel
theorem dX0_putWidths_41 : decode cX0_putWidths 41 = .ok (.iaload, 1) := by decide +kernel
theorem dX0_putWidths_42 : decode cX0_putWidths 42 = .ok (.iload 4, 2) := by decide +kernel
theorem dX0_putWidths_44 : decode cX0_putWidths 44 = .ok (.iadd, 1) := by decide +kernel
theorem dX0_putWidths_45 : decode cX0_putWidths 45 = .ok (.iastore, 1) := by decide +kernel
theorem dX0_putWidths_46 : decode cX0_putWidths 46 = .ok (.aload_n 0, 1) := by decide +kernel
theorem dX0_putWidths_47 : decode cX0_putWidths 47 = .ok (.getfield 35, 3) := by decide +kernel
theorem dX0_putWidths_50 : decode cX0_putWidths 50 = .ok (.iload 6, 2) := by decide +kernel
theorem dX0_putWidths_52 : decode cX0_putWidths 52 = .ok (.dup2, 1) := by decide +kernel
theorem dX0_putWidths_53 : decode cX0_putWidths 53 = .ok (.iaload, 1) := by decide +kernel
theorem dX0_putWidths_54 : decode cX0_putWidths 54 = .ok (.iload 5, 2) := by decide +kernel
theorem dX0_putWidths_56 : decode cX0_putWidths 56 = .ok (.iadd, 1) := by decide +kernel
theorem dX0_putWidths_57 : decode cX0_putWidths 57 = .ok (.iastore, 1) := by decide +kernel
theorem dX0_putWidths_58 : decode cX0_putWidths 58 = .ok (.iinc 6 1, 3) := by decide +kernel
theorem dX0_putWidths_61 : decode cX0_putWidths 61 = .ok (.goto (-36), 3) := by decide +kernel
theorem dX0_putWidths_64 : decode cX0_putWidths 64 = .ok (.return_, 1) := by decide +kernel
theorem dX0_isMarked_0 : decode cX0_isMarked 0 = .ok (.aload_n 0, 1) := by decide +kernel
theorem dX0_isMarked_1 : decode cX0_isMarked 1 = .ok (.getfield 29, 3) := by decide +kernel
theorem dX0_isMarked_4 : decode cX0_isMarked 4 = .ok (.iload_n 2, 1) := by decide +kernel
theorem dX0_isMarked_5 : decode cX0_isMarked 5 = .ok (.iaload, 1) := by decide +kernel
theorem dX0_isMarked_6 : decode cX0_isMarked 6 = .ok (.iload_n 1, 1) := by decide +kernel
theorem dX0_isMarked_7 : decode cX0_isMarked 7 = .ok (.ishr, 1) := by decide +kernel
theorem dX0_isMarked_8 : decode cX0_isMarked 8 = .ok (.iconst 1, 1) := by decide +kernel
theorem dX0_isMarked_9 : decode cX0_isMarked 9 = .ok (.iand, 1) := by decide +kernel
theorem dX0_isMarked_10 : decode cX0_isMarked 10 = .ok (.iconst 1, 1) := by decide +kernel
theorem dX0_isMarked_11 : decode cX0_isMarked 11 = .ok (.if_icmp .ne 7, 3) := by decide +kernel
theorem dX0_isMarked_14 : decode cX0_isMarked 14 = .ok (.iconst 1, 1) := by decide +kernel
theorem dX0_isMarked_15 : decode cX0_isMarked 15 = .ok (.goto 4, 3) := by decide +kernel
theorem dX0_isMarked_18 : decode cX0_isMarked 18 = .ok (.iconst 0, 1) := by decide +kernel
theorem dX0_isMarked_19 : decode cX0_isMarked 19 = .ok (.ireturn, 1) := by decide +kernel
theorem dX0_putMark_0 : decode cX0_putMark 0 = .ok (.iconst 1, 1) := by decide +kernel
theorem dX0_putMark_1 : decode cX0_putMark 1 = .ok (.iload_n 1, 1) := by decide +kernel
theorem dX0_putMark_2 : decode cX0_putMark 2 = .ok (.ishl, 1) := by decide +kernel
theorem dX0_putMark_3 : decode cX0_putMark 3 = .ok (.istore 4, 2) := by decide +kernel
theorem dX0_putMark_5 : decode cX0_putMark 5 = .ok (.aload_n 0, 1) := by decide +kernel
theorem dX0_putMark_6 : decode cX0_putMark 6 = .ok (.getfield 29, 3) := by decide +kernel
theorem dX0_putMark_9 : decode cX0_putMark 9 = .ok (.iload_n 2, 1) := by decide +kernel
theorem dX0_putMark_10 : decode cX0_putMark 10 = .ok (.iload_n 3, 1) := by decide +kernel
theorem dX0_putMark_11 : decode cX0_putMark 11 = .ok (.ifCond .eq 15, 3) := by decide +kernel
theorem dX0_putMark_14 : decode cX0_putMark 14 = .ok (.aload_n 0, 1) := by decide +kernel
theorem dX0_putMark_15 : decode cX0_putMark 15 = .ok (.getfield 29, 3) := by decide +kernel
theorem dX0_putMark_18 : decode cX0_putMark 18 = .ok (.iload_n 2, 1) := by decide +kernel
theorem dX0_putMark_19 : decode cX0_putMark 19 = .ok (.iaload, 1) := by decide +kernel
theorem dX0_putMark_20 : decode cX0_putMark 20 = .ok (.iload 4, 2) := by decide +kernel
theorem dX0_putMark_22 : decode cX0_putMark 22 = .ok (.ior, 1) := by decide +kernel
theorem dX0_putMark_23 : decode cX0_putMark 23 = .ok (.goto 14, 3) := by decide +kernel
theorem dX0_putMark_26 : decode cX0_putMark 26 = .ok (.aload_n 0, 1) := by decide +kernel
theorem dX0_putMark_27 : decode cX0_putMark 27 = .ok (.getfield 29, 3) := by decide +kernel
theorem dX0_putMark_30 : decode cX0_putMark 30 = .ok (.iload_n 2, 1) := by decide +kernel
theorem dX0_putMark_31 : decode cX0_putMark 31 = .ok (.iaload, 1) := by decide +kernel
theorem dX0_putMark_32 : decode cX0_putMark 32 = .ok (.iload 4, 2) := by decide +kernel
theorem dX0_putMark_34 : decode cX0_putMark 34 = .ok (.iconst (-1), 1) := by decide +kernel
theorem dX0_putMark_35 : decode cX0_putMark 35 = .ok (.ixor, 1) := by decide +kernel
theorem dX0_putMark_36 : decode cX0_putMark 36 = .ok (.iand, 1) := by decide +kernel
theorem dX0_putMark_37 : decode cX0_putMark 37 = .ok (.iastore, 1) := by decide +kernel
theorem dX0_putMark_38 : decode cX0_putMark 38 = .ok (.return_, 1) := by decide +kernel
theorem dX0_leastOf_0 : decode cX0_leastOf 0 = .ok (.aload_n 0, 1) := by decide +kernel
theorem dX0_leastOf_1 : decode cX0_leastOf 1 = .ok (.getfield 32, 3) := by decide +kernel
theorem dX0_leastOf_4 : decode cX0_leastOf 4 = .ok (.iload_n 2, 1) := by decide +kernel
theorem dX0_leastOf_5 : decode cX0_leastOf 5 = .ok (.iconst 1, 1) := by decide +kernel
theorem dX0_leastOf_6 : decode cX0_leastOf 6 = .ok (.iadd, 1) := by decide +kernel
theorem dX0_leastOf_7 : decode cX0_leastOf 7 = .ok (.iaload, 1) := by decide +kernel
theorem dX0_leastOf_8 : decode cX0_leastOf 8 = .ok (.aload_n 0, 1) := by decide +kernel
theorem dX0_leastOf_9 : decode cX0_leastOf 9 = .ok (.getfield 32, 3) := by decide +kernel
theorem dX0_leastOf_12 : decode cX0_leastOf 12 = .ok (.iload_n 1, 1) := by decide +kernel
theorem dX0_leastOf_13 : decode cX0_leastOf 13 = .ok (.iaload, 1) := by decide +kernel
theorem dX0_leastOf_14 : decode cX0_leastOf 14 = .ok (.isub, 1) := by decide +kernel
theorem dX0_leastOf_15 : decode cX0_leastOf 15 = .ok (.ireturn, 1) := by decide +kernel
theorem dX0_wishedOf_0 : decode cX0_wishedOf 0 = .ok (.aload_n 0, 1) := by decide +kernel
theorem dX0_wishedOf_1 : decode cX0_wishedOf 1 = .ok (.getfield 35, 3) := by decide +kernel
theorem dX0_wishedOf_4 : decode cX0_wishedOf 4 = .ok (.iload_n 2, 1) := by decide +kernel
theorem dX0_wishedOf_5 : decode cX0_wishedOf 5 = .ok (.iconst 1, 1) := by decide +kernel
theorem dX0_wishedOf_6 : decode cX0_wishedOf 6 = .ok (.iadd, 1) := by decide +kernel
theorem dX0_wishedOf_7 : decode cX0_wishedOf 7 = .ok (.iaload, 1) := by decide +kernel
theorem dX0_wishedOf_8 : decode cX0_wishedOf 8 = .ok (.aload_n 0, 1) := by decide +kernel
theorem dX0_wishedOf_9 : decode cX0_wishedOf 9 = .ok (.getfield 35, 3) := by decide +kernel
theorem dX0_wishedOf_12 : decode cX0_wishedOf 12 = .ok (.iload_n 1, 1) := by decide +kernel
theorem dX0_wishedOf_13 : decode cX0_wishedOf 13 = .ok (.iaload, 1) := by decide +kernel
theorem dX0_wishedOf_14 : decode cX0_wishedOf 14 = .ok (.isub, 1) := by decide +kernel
theorem dX0_wishedOf_15 : decode cX0_wishedOf 15 = .ok (.ireturn, 1) := by decide +kernel
set_option maxRecDepth 20000 in
theorem ggX0_spare_X0_wishedOf : GoodIn wsX0_spare wsX0_wishedOf := goodIn_r _ [6, 7, 8, 9, 10, 11, 12, 13, 14, 15] rfl (by decide +kernel)
set_option maxRecDepth 20000 in
theorem gX0_spare_X0_wishedOf : GoodIn wsX0_spare (wsV RX0 42 RX0 yX0_wishedOf wsX0_wishedOf) := goodIn_app (goodIn_of _ (by decide +kernel)) ggX0_spare_X0_wishedOf
theorem dX0_spare_0 : decode cX0_spare 0 = .ok (.aload_n 0, 1) := by decide +kernel
theorem dX0_spare_1 : decode cX0_spare 1 = .ok (.getfield 15, 3) := by decide +kernel
theorem dX0_spare_4 : decode cX0_spare 4 = .ok (.aload_n 0, 1) := by decide +kernel
theorem dX0_spare_5 : decode cX0_spare 5 = .ok (.iload_n 1, 1) := by decide +kernel
theorem dX0_spare_6 : decode cX0_spare 6 = .ok (.iload_n 2, 1) := by decide +kernel
theorem dX0_spare_7 : decode cX0_spare 7 = .ok (.invokevirtual 42, 3) := by decide +kernel
theorem dX0_spare_10 : decode cX0_spare 10 = .ok (.isub, 1) := by decide +kernel
theorem dX0_spare_11 : decode cX0_spare 11 = .ok (.ireturn, 1) := by decide +kernel
theorem dX0_isOver_0 : decode cX0_isOver 0 = .ok (.aload_n 0, 1) := by decide +kernel
theorem dX0_isOver_1 : decode cX0_isOver 1 = .ok (.getfield 32, 3) := by decide +kernel
theorem dX0_isOver_4 : decode cX0_isOver 4 = .ok (.iload_n 2, 1) := by decide +kernel
theorem dX0_isOver_5 : decode cX0_isOver 5 = .ok (.iconst 1, 1) := by decide +kernel
theorem dX0_isOver_6 : decode cX0_isOver 6 = .ok (.iadd, 1) := by decide +kernel
theorem dX0_isOver_7 : decode cX0_isOver 7 = .ok (.iaload, 1) := by decide +kernel
theorem dX0_isOver_8 : decode cX0_isOver 8 = .ok (.aload_n 0, 1) := by decide +kernel
theorem dX0_isOver_9 : decode cX0_isOver 9 = .ok (.getfield 32, 3) := by decide +kernel
theorem dX0_isOver_12 : decode cX0_isOver 12 = .ok (.iload_n 1, 1) := by decide +kernel
theorem dX0_isOver_13 : decode cX0_isOver 13 = .ok (.iaload, 1) := by decide +kernel
theorem dX0_isOver_14 : decode cX0_isOver 14 = .ok (.isub, 1) := by decide +kernel
theorem dX0_isOver_15 : decode cX0_isOver 15 = .ok (.aload_n 0, 1) := by decide +kernel
theorem dX0_isOver_16 : decode cX0_isOver 16 = .ok (.getfield 15, 3) := by decide +kernel
theorem dX0_isOver_19 : decode cX0_isOver 19 = .ok (.if_icmp .le 7, 3) := by decide +kernel
theorem dX0_isOver_22 : decode cX0_isOver 22 = .ok (.iconst 1, 1) := by decide +kernel
theorem dX0_isOver_23 : decode cX0_isOver 23 = .ok (.goto 4, 3) := by decide +kernel
theorem dX0_isOver_26 : decode cX0_isOver 26 = .ok (.iconst 0, 1) := by decide +kernel
theorem dX0_isOver_27 : decode cX0_isOver 27 = .ok (.ireturn, 1) := by decide +kernel
set_option maxRecDepth 20000 in
theorem ggX0_mayBe_X0_isMarked : GoodIn wsX0_mayBe wsX0_isMarked := goodIn_r _ [7, 1, 14, 15, 16, 17, 18, 19, 20, 21] rfl (by decide +kernel)
set_option maxRecDepth 20000 in
theorem gX0_mayBe_X0_isMarked : GoodIn wsX0_mayBe (wsV RX0 45 RX0 yX0_isMarked wsX0_isMarked) := goodIn_app (goodIn_of _ (by decide +kernel)) ggX0_mayBe_X0_isMarked
set_option maxRecDepth 20000 in
theorem ggX0_mayBe_X0_isOver : GoodIn wsX0_mayBe wsX0_isOver := goodIn_r _ [11, 12, 13, 14, 15, 16, 17, 18, 19, 20, 21] rfl (by decide +kernel)
set_option maxRecDepth 20000 in
theorem gX0_mayBe_X0_isOver : GoodIn wsX0_mayBe (wsV RX0 49 RX0 yX0_isOver wsX0_isOver) := goodIn_app (goodIn_of _ (by decide +kernel)) ggX0_mayBe_X0_isOver
theorem dX0_mayBe_0 : decode cX0_mayBe 0 = .ok (.iconst 1, 1) := by decide +kernel
theorem dX0_mayBe_1 : decode cX0_mayBe 1 = .ok (.iload_n 2, 1) := by decide +kernel
theorem dX0_mayBe_2 : decode cX0_mayBe 2 = .ok (.ishl, 1) := by decide +kernel
theorem dX0_mayBe_3 : decode cX0_mayBe 3 = .ok (.iconst 1, 1) := by decide +kernel
theorem dX0_mayBe_4 : decode cX0_mayBe 4 = .ok (.iload_n 1, 1) := by decide +kernel
theorem dX0_mayBe_5 : decode cX0_mayBe 5 = .ok (.ishl, 1) := by decide +kernel
theorem dX0_mayBe_6 : decode cX0_mayBe 6 = .ok (.isub, 1) := by decide +kernel
theorem dX0_mayBe_7 : decode cX0_mayBe 7 = .ok (.istore_n 3, 1) := by decide +kernel
theorem dX0_mayBe_8 : decode cX0_mayBe 8 = .ok (.aload_n 0, 1) := by decide +kernel
theorem dX0_mayBe_9 : decode cX0_mayBe 9 = .ok (.getfield 29, 3) := by decide +kernel
theorem dX0_mayBe_12 : decode cX0_mayBe 12 = .ok (.iconst 0, 1) := by decide +kernel
theorem dX0_mayBe_13 : decode cX0_mayBe 13 = .ok (.iaload, 1) := by decide +kernel
theorem dX0_mayBe_14 : decode cX0_mayBe 14 = .ok (.iload_n 3, 1) := by decide +kernel
theorem dX0_mayBe_15 : decode cX0_mayBe 15 = .ok (.iand, 1) := by decide +kernel
theorem dX0_mayBe_16 : decode cX0_mayBe 16 = .ok (.ifCond .eq 5, 3) := by decide +kernel
theorem dX0_mayBe_19 : decode cX0_mayBe 19 = .ok (.iconst 0, 1) := by decide +kernel
theorem dX0_mayBe_20 : decode cX0_mayBe 20 = .ok (.ireturn, 1) := by decide +kernel
theorem dX0_mayBe_21 : decode cX0_mayBe 21 = .ok (.aload_n 0, 1) := by decide +kernel
theorem dX0_mayBe_22 : decode cX0_mayBe 22 = .ok (.iload_n 2, 1) := by decide +kernel
theorem dX0_mayBe_23 : decode cX0_mayBe 23 = .ok (.iconst 1, 1) := by decide +kernel
theorem dX0_mayBe_24 : decode cX0_mayBe 24 = .ok (.invokevirtual 45, 3) := by decide +kernel
theorem dX0_mayBe_27 : decode cX0_mayBe 27 = .ok (.ifCond .eq 24, 3) := by decide +kernel
theorem dX0_mayBe_30 : decode cX0_mayBe 30 = .ok (.aload_n 0, 1) := by decide +kernel
theorem dX0_mayBe_31 : decode cX0_mayBe 31 = .ok (.iload_n 2, 1) := by decide +kernel
theorem dX0_mayBe_32 : decode cX0_mayBe 32 = .ok (.iconst 0, 1) := by decide +kernel
theorem dX0_mayBe_33 : decode cX0_mayBe 33 = .ok (.invokevirtual 45, 3) := by decide +kernel
theorem dX0_mayBe_36 : decode cX0_mayBe 36 = .ok (.ifCond .ne 15, 3) := by decide +kernel
theorem dX0_mayBe_39 : decode cX0_mayBe 39 = .ok (.iload_n 2, 1) := by decide +kernel
theorem dX0_mayBe_40 : decode cX0_mayBe 40 = .ok (.aload_n 0, 1) := by decide +kernel
theorem dX0_mayBe_41 : decode cX0_mayBe 41 = .ok (.getfield 9, 3) := by decide +kernel
theorem dX0_mayBe_44 : decode cX0_mayBe 44 = .ok (.iconst 1, 1) := by decide +kernel
theorem dX0_mayBe_45 : decode cX0_mayBe 45 = .ok (.isub, 1) := by decide +kernel
theorem dX0_mayBe_46 : decode cX0_mayBe 46 = .ok (.if_icmp .eq 5, 3) := by decide +kernel
theorem dX0_mayBe_49 : decode cX0_mayBe 49 = .ok (.iconst 0, 1) := by decide +kernel
theorem dX0_mayBe_50 : decode cX0_mayBe 50 = .ok (.ireturn, 1) := by decide +kernel
theorem dX0_mayBe_51 : decode cX0_mayBe 51 = .ok (.iload_n 1, 1) := by decide +kernel
theorem dX0_mayBe_52 : decode cX0_mayBe 52 = .ok (.iload_n 2, 1) := by decide +kernel
theorem dX0_mayBe_53 : decode cX0_mayBe 53 = .ok (.if_icmp .eq 12, 3) := by decide +kernel
theorem dX0_mayBe_56 : decode cX0_mayBe 56 = .ok (.aload_n 0, 1) := by decide +kernel
theorem dX0_mayBe_57 : decode cX0_mayBe 57 = .ok (.iload_n 1, 1) := by decide +kernel
theorem dX0_mayBe_58 : decode cX0_mayBe 58 = .ok (.iload_n 2, 1) := by decide +kernel
theorem dX0_mayBe_59 : decode cX0_mayBe 59 = .ok (.invokevirtual 49, 3) := by decide +kernel
theorem dX0_mayBe_62 : decode cX0_mayBe 62 = .ok (.ifCond .ne 7, 3) := by decide +kernel
theorem dX0_mayBe_65 : decode cX0_mayBe 65 = .ok (.iconst 1, 1) := by decide +kernel
theorem dX0_mayBe_66 : decode cX0_mayBe 66 = .ok (.goto 4, 3) := by decide +kernel
theorem dX0_mayBe_69 : decode cX0_mayBe 69 = .ok (.iconst 0, 1) := by decide +kernel
theorem dX0_mayBe_70 : decode cX0_mayBe 70 = .ok (.ireturn, 1) := by decide +kernel
set_option maxRecDepth 20000 in
theorem ggX0_linePrice_X0_mayBe : GoodIn wsX0_linePrice wsX0_mayBe := goodIn_r _ [8, 9, 3, 10, 11, 12, 7, 13, 14, 15, 16, 17, 18, 19, 29, 30, 31, 32, 33, 34, 35, 36] rfl (by decide +kernel)
set_option maxRecDepth 20000 in
theorem gX0_linePrice_X0_mayBe : GoodIn wsX0_linePrice (wsV RX0 52 RX0 yX0_mayBe wsX0_mayBe) := goodIn_app (goodIn_of _ (by decide +kernel)) ggX0_linePrice_X0_mayBe
set_option maxRecDepth 20000 in
theorem ggX0_linePrice_X0_isOver : GoodIn wsX0_linePrice wsX0_isOver := goodIn_r _ [17, 18, 19, 29, 30, 31, 32, 33, 34, 35, 36] rfl (by decide +kernel)
set_option maxRecDepth 20000 in
theorem gX0_linePrice_X0_isOver : GoodIn wsX0_linePrice (wsV RX0 49 RX0 yX0_isOver wsX0_isOver) := goodIn_app (goodIn_of _ (by decide +kernel)) ggX0_linePrice_X0_isOver
set_option maxRecDepth 20000 in
theorem ggX0_linePrice_X0_spare : GoodIn wsX0_linePrice wsX0_spare := goodIn_r _ [23, 19, 24, 25, 26, 7, 27, 28, 29, 30, 31, 32, 33, 34, 35, 36] rfl (by decide +kernel)
set_option maxRecDepth 20000 in
theorem gX0_linePrice_X0_spare : GoodIn wsX0_linePrice (wsV RX0 57 RX0 yX0_spare wsX0_spare) := goodIn_app (goodIn_of _ (by decide +kernel)) ggX0_linePrice_X0_spare
theorem dX0_linePrice_0 : decode cX0_linePrice 0 = .ok (.aload_n 0, 1) := by decide +kernel
theorem dX0_linePrice_1 : decode cX0_linePrice 1 = .ok (.iload_n 1, 1) := by decide +kernel
theorem dX0_linePrice_2 : decode cX0_linePrice 2 = .ok (.iload_n 2, 1) := by decide +kernel
theorem dX0_linePrice_3 : decode cX0_linePrice 3 = .ok (.invokevirtual 52, 3) := by decide +kernel
theorem dX0_linePrice_6 : decode cX0_linePrice 6 = .ok (.ifCond .ne 7, 3) := by decide +kernel
theorem dX0_linePrice_9 : decode cX0_linePrice 9 = .ok (.ldc2_w 55, 3) := by decide +kernel
theorem dX0_linePrice_12 : decode cX0_linePrice 12 = .ok (.lreturn, 1) := by decide +kernel
theorem dX0_linePrice_13 : decode cX0_linePrice 13 = .ok (.aload_n 0, 1) := by decide +kernel
theorem dX0_linePrice_14 : decode cX0_linePrice 14 = .ok (.iload_n 1, 1) := by decide +kernel
theorem dX0_linePrice_15 : decode cX0_linePrice 15 = .ok (.iload_n 2, 1) := by decide +kernel
theorem dX0_linePrice_16 : decode cX0_linePrice 16 = .ok (.invokevirtual 49, 3) := by decide +kernel
theorem dX0_linePrice_19 : decode cX0_linePrice 19 = .ok (.ifCond .eq 11, 3) := by decide +kernel
theorem dX0_linePrice_22 : decode cX0_linePrice 22 = .ok (.aload_n 0, 1) := by decide +kernel
theorem dX0_linePrice_23 : decode cX0_linePrice 23 = .ok (.getfield 24, 3) := by decide +kernel
theorem dX0_linePrice_26 : decode cX0_linePrice 26 = .ok (.iconst 3, 1) := by decide +kernel
theorem dX0_linePrice_27 : decode cX0_linePrice 27 = .ok (.iaload, 1) := by decide +kernel
theorem dX0_linePrice_28 : decode cX0_linePrice 28 = .ok (.i2l, 1) := by decide +kernel
theorem dX0_linePrice_29 : decode cX0_linePrice 29 = .ok (.lreturn, 1) := by decide +kernel
theorem dX0_linePrice_30 : decode cX0_linePrice 30 = .ok (.aload_n 0, 1) := by decide +kernel
theorem dX0_linePrice_31 : decode cX0_linePrice 31 = .ok (.iload_n 1, 1) := by decide +kernel
theorem dX0_linePrice_32 : decode cX0_linePrice 32 = .ok (.iload_n 2, 1) := by decide +kernel
theorem dX0_linePrice_33 : decode cX0_linePrice 33 = .ok (.invokevirtual 57, 3) := by decide +kernel
theorem dX0_linePrice_36 : decode cX0_linePrice 36 = .ok (.i2l, 1) := by decide +kernel
theorem dX0_linePrice_37 : decode cX0_linePrice 37 = .ok (.lstore_n 3, 1) := by decide +kernel
theorem dX0_linePrice_38 : decode cX0_linePrice 38 = .ok (.lload_n 3, 1) := by decide +kernel
theorem dX0_linePrice_39 : decode cX0_linePrice 39 = .ok (.lconst 0, 1) := by decide +kernel
theorem dX0_linePrice_40 : decode cX0_linePrice 40 = .ok (.lcmp, 1) := by decide +kernel
theorem dX0_linePrice_41 : decode cX0_linePrice 41 = .ok (.ifCond .ge 15, 3) := by decide +kernel
theorem dX0_linePrice_44 : decode cX0_linePrice 44 = .ok (.aload_n 0, 1) := by decide +kernel
theorem dX0_linePrice_45 : decode cX0_linePrice 45 = .ok (.getfield 24, 3) := by decide +kernel
theorem dX0_linePrice_48 : decode cX0_linePrice 48 = .ok (.iconst 0, 1) := by decide +kernel
theorem dX0_linePrice_49 : decode cX0_linePrice 49 = .ok (.iaload, 1) := by decide +kernel
theorem dX0_linePrice_50 : decode cX0_linePrice 50 = .ok (.i2l, 1) := by decide +kernel
theorem dX0_linePrice_51 : decode cX0_linePrice 51 = .ok (.lload_n 3, 1) := by decide +kernel
theorem dX0_linePrice_52 : decode cX0_linePrice 52 = .ok (.lmul, 1) := by decide +kernel
theorem dX0_linePrice_53 : decode cX0_linePrice 53 = .ok (.lload_n 3, 1) := by decide +kernel
theorem dX0_linePrice_54 : decode cX0_linePrice 54 = .ok (.lmul, 1) := by decide +kernel
theorem dX0_linePrice_55 : decode cX0_linePrice 55 = .ok (.lreturn, 1) := by decide +kernel
theorem dX0_linePrice_56 : decode cX0_linePrice 56 = .ok (.iload_n 2, 1) := by decide +kernel
theorem dX0_linePrice_57 : decode cX0_linePrice 57 = .ok (.aload_n 0, 1) := by decide +kernel
theorem dX0_linePrice_58 : decode cX0_linePrice 58 = .ok (.getfield 9, 3) := by decide +kernel
theorem dX0_linePrice_61 : decode cX0_linePrice 61 = .ok (.iconst 1, 1) := by decide +kernel
theorem dX0_linePrice_62 : decode cX0_linePrice 62 = .ok (.isub, 1) := by decide +kernel
theorem dX0_linePrice_63 : decode cX0_linePrice 63 = .ok (.if_icmp .ne 7, 3) := by decide +kernel
theorem dX0_linePrice_66 : decode cX0_linePrice 66 = .ok (.lconst 0, 1) := by decide +kernel
theorem dX0_linePrice_67 : decode cX0_linePrice 67 = .ok (.goto 14, 3) := by decide +kernel
theorem dX0_linePrice_70 : decode cX0_linePrice 70 = .ok (.aload_n 0, 1) := by decide +kernel
theorem dX0_linePrice_71 : decode cX0_linePrice 71 = .ok (.getfield 24, 3) := by decide +kernel
theorem dX0_linePrice_74 : decode cX0_linePrice 74 = .ok (.iconst 4, 1) := by decide +kernel
theorem dX0_linePrice_75 : decode cX0_linePrice 75 = .ok (.iaload, 1) := by decide +kernel
theorem dX0_linePrice_76 : decode cX0_linePrice 76 = .ok (.i2l, 1) := by decide +kernel
theorem dX0_linePrice_77 : decode cX0_linePrice 77 = .ok (.lload_n 3, 1) := by decide +kernel
theorem dX0_linePrice_78 : decode cX0_linePrice 78 = .ok (.lmul, 1) := by decide +kernel
theorem dX0_linePrice_79 : decode cX0_linePrice 79 = .ok (.lload_n 3, 1) := by decide +kernel
theorem dX0_linePrice_80 : decode cX0_linePrice 80 = .ok (.lmul, 1) := by decide +kernel
theorem dX0_linePrice_81 : decode cX0_linePrice 81 = .ok (.lreturn, 1) := by decide +kernel
set_option maxRecDepth 20000 in
theorem ggX0_turnPrice_X0_isMarked : GoodIn wsX0_turnPrice wsX0_isMarked := goodIn_r _ [6, 7, 8, 9, 10, 11, 12, 13, 14, 15] rfl (by decide +kernel)
set_option maxRecDepth 20000 in
theorem gX0_turnPrice_X0_isMarked : GoodIn wsX0_turnPrice (wsV RX0 45 RX0 yX0_isMarked wsX0_isMarked) := goodIn_app (goodIn_of _ (by decide +kernel)) ggX0_turnPrice_X0_isMarked
theorem dX0_turnPrice_0 : decode cX0_turnPrice 0 = .ok (.aload_n 0, 1) := by decide +kernel
theorem dX0_turnPrice_1 : decode cX0_turnPrice 1 = .ok (.iload_n 1, 1) := by decide +kernel
theorem dX0_turnPrice_2 : decode cX0_turnPrice 2 = .ok (.iconst 2, 1) := by decide +kernel
theorem dX0_turnPrice_3 : decode cX0_turnPrice 3 = .ok (.invokevirtual 45, 3) := by decide +kernel
theorem dX0_turnPrice_6 : decode cX0_turnPrice 6 = .ok (.ifCond .eq 7, 3) := by decide +kernel
theorem dX0_turnPrice_9 : decode cX0_turnPrice 9 = .ok (.iconst 0, 1) := by decide +kernel
theorem dX0_turnPrice_10 : decode cX0_turnPrice 10 = .ok (.goto 9, 3) := by decide +kernel
theorem dX0_turnPrice_13 : decode cX0_turnPrice 13 = .ok (.aload_n 0, 1) := by decide +kernel
theorem dX0_turnPrice_14 : decode cX0_turnPrice 14 = .ok (.getfield 24, 3) := by decide +kernel
theorem dX0_turnPrice_17 : decode cX0_turnPrice 17 = .ok (.iconst 1, 1) := by decide +kernel
theorem dX0_turnPrice_18 : decode cX0_turnPrice 18 = .ok (.iaload, 1) := by decide +kernel
theorem dX0_turnPrice_19 : decode cX0_turnPrice 19 = .ok (.ireturn, 1) := by decide +kernel
set_option maxRecDepth 20000 in
theorem ggX0_setAhead_X0_isOver : GoodIn wsX0_setAhead wsX0_isOver := goodIn_r _ [7, 1, 8, 24, 25, 26, 27, 28, 29, 30, 31] rfl (by decide +kernel)
set_option maxRecDepth 20000 in
theorem gX0_setAhead_X0_isOver : GoodIn wsX0_setAhead (wsV RX0 49 RX0 yX0_isOver wsX0_isOver) := goodIn_app (goodIn_of _ (by decide +kernel)) ggX0_setAhead_X0_isOver
set_option maxRecDepth 20000 in
theorem ggX0_setAhead_X0_spare : GoodIn wsX0_setAhead wsX0_spare := goodIn_r _ [12, 8, 13, 14, 15, 6, 16, 2, 24, 25, 26, 27, 28, 29, 30, 31] rfl (by decide +kernel)
set_option maxRecDepth 20000 in
theorem gX0_setAhead_X0_spare : GoodIn wsX0_setAhead (wsV RX0 57 RX0 yX0_spare wsX0_spare) := goodIn_app (goodIn_of _ (by decide +kernel)) ggX0_setAhead_X0_spare
set_option maxRecDepth 20000 in
theorem ggX0_setAhead_X0_wishedOf : GoodIn wsX0_setAhead wsX0_wishedOf := goodIn_r _ [16, 2, 24, 25, 26, 27, 28, 29, 30, 31] rfl (by decide +kernel)
set_option maxRecDepth 20000 in
theorem gX0_setAhead_X0_wishedOf : GoodIn wsX0_setAhead (wsV RX0 42 RX0 yX0_wishedOf wsX0_wishedOf) := goodIn_app (goodIn_of _ (by decide +kernel)) ggX0_setAhead_X0_wishedOf
set_option maxRecDepth 20000 in
theorem ggX0_setAhead_X0_share : GoodIn wsX0_setAhead wsX0_share := goodIn_r _ [19] rfl (by decide +kernel)
set_option maxRecDepth 20000 in
theorem gX0_setAhead_X0_share : GoodIn wsX0_setAhead (va_wsS RX0 60 yX0_share wsX0_share) := goodIn_app (goodIn_of _ (by decide +kernel)) ggX0_setAhead_X0_share
set_option maxRecDepth 20000 in
theorem ggX0_setAhead_X0_leastOf : GoodIn wsX0_setAhead wsX0_leastOf := goodIn_r _ [23, 1, 24, 25, 26, 27, 28, 29, 30, 31] rfl (by decide +kernel)
set_option maxRecDepth 20000 in
theorem gX0_setAhead_X0_leastOf : GoodIn wsX0_setAhead (wsV RX0 38 RX0 yX0_leastOf wsX0_leastOf) := goodIn_app (goodIn_of _ (by decide +kernel)) ggX0_setAhead_X0_leastOf
theorem dX0_setAhead_0 : decode cX0_setAhead 0 = .ok (.aload_n 0, 1) := by decide +kernel
theorem dX0_setAhead_1 : decode cX0_setAhead 1 = .ok (.getfield 32, 3) := by decide +kernel
theorem dX0_setAhead_4 : decode cX0_setAhead 4 = .ok (.iload_n 3, 1) := by decide +kernel
theorem dX0_setAhead_5 : decode cX0_setAhead 5 = .ok (.iaload, 1) := by decide +kernel
theorem dX0_setAhead_6 : decode cX0_setAhead 6 = .ok (.aload_n 0, 1) := by decide +kernel
theorem dX0_setAhead_7 : decode cX0_setAhead 7 = .ok (.getfield 32, 3) := by decide +kernel
theorem dX0_setAhead_10 : decode cX0_setAhead 10 = .ok (.iload_n 1, 1) := by decide +kernel
theorem dX0_setAhead_11 : decode cX0_setAhead 11 = .ok (.iaload, 1) := by decide +kernel
theorem dX0_setAhead_12 : decode cX0_setAhead 12 = .ok (.isub, 1) := by decide +kernel
theorem dX0_setAhead_13 : decode cX0_setAhead 13 = .ok (.istore 4, 2) := by decide +kernel
theorem dX0_setAhead_15 : decode cX0_setAhead 15 = .ok (.aload_n 0, 1) := by decide +kernel
theorem dX0_setAhead_16 : decode cX0_setAhead 16 = .ok (.getfield 35, 3) := by decide +kernel
theorem dX0_setAhead_19 : decode cX0_setAhead 19 = .ok (.iload_n 3, 1) := by decide +kernel
theorem dX0_setAhead_20 : decode cX0_setAhead 20 = .ok (.iaload, 1) := by decide +kernel
theorem dX0_setAhead_21 : decode cX0_setAhead 21 = .ok (.aload_n 0, 1) := by decide +kernel
theorem dX0_setAhead_22 : decode cX0_setAhead 22 = .ok (.getfield 35, 3) := by decide +kernel
theorem dX0_setAhead_25 : decode cX0_setAhead 25 = .ok (.iload_n 1, 1) := by decide +kernel
theorem dX0_setAhead_26 : decode cX0_setAhead 26 = .ok (.iaload, 1) := by decide +kernel
theorem dX0_setAhead_27 : decode cX0_setAhead 27 = .ok (.isub, 1) := by decide +kernel
theorem dX0_setAhead_28 : decode cX0_setAhead 28 = .ok (.istore 5, 2) := by decide +kernel
theorem dX0_setAhead_30 : decode cX0_setAhead 30 = .ok (.aload_n 0, 1) := by decide +kernel
theorem dX0_setAhead_31 : decode cX0_setAhead 31 = .ok (.iload_n 1, 1) := by decide +kernel
theorem dX0_setAhead_32 : decode cX0_setAhead 32 = .ok (.iload_n 2, 1) := by decide +kernel
theorem dX0_setAhead_33 : decode cX0_setAhead 33 = .ok (.invokevirtual 49, 3) := by decide +kernel
theorem dX0_setAhead_36 : decode cX0_setAhead 36 = .ok (.ifCond .eq 6, 3) := by decide +kernel
theorem dX0_setAhead_39 : decode cX0_setAhead 39 = .ok (.iload 4, 2) := by decide +kernel
theorem dX0_setAhead_41 : decode cX0_setAhead 41 = .ok (.ireturn, 1) := by decide +kernel
theorem dX0_setAhead_42 : decode cX0_setAhead 42 = .ok (.aload_n 0, 1) := by decide +kernel
theorem dX0_setAhead_43 : decode cX0_setAhead 43 = .ok (.iload_n 1, 1) := by decide +kernel
theorem dX0_setAhead_44 : decode cX0_setAhead 44 = .ok (.iload_n 2, 1) := by decide +kernel
theorem dX0_setAhead_45 : decode cX0_setAhead 45 = .ok (.invokevirtual 57, 3) := by decide +kernel
theorem dX0_setAhead_48 : decode cX0_setAhead 48 = .ok (.istore 6, 2) := by decide +kernel
theorem dX0_setAhead_50 : decode cX0_setAhead 50 = .ok (.iload 6, 2) := by decide +kernel
theorem dX0_setAhead_52 : decode cX0_setAhead 52 = .ok (.ifCond .lt 20, 3) := by decide +kernel
theorem dX0_setAhead_55 : decode cX0_setAhead 55 = .ok (.iload 5, 2) := by decide +kernel
theorem dX0_setAhead_57 : decode cX0_setAhead 57 = .ok (.iload 6, 2) := by decide +kernel
theorem dX0_setAhead_59 : decode cX0_setAhead 59 = .ok (.iload 5, 2) := by decide +kernel
theorem dX0_setAhead_61 : decode cX0_setAhead 61 = .ok (.aload_n 0, 1) := by decide +kernel
theorem dX0_setAhead_62 : decode cX0_setAhead 62 = .ok (.iload_n 1, 1) := by decide +kernel
theorem dX0_setAhead_63 : decode cX0_setAhead 63 = .ok (.iload_n 2, 1) := by decide +kernel
theorem dX0_setAhead_64 : decode cX0_setAhead 64 = .ok (.invokevirtual 42, 3) := by decide +kernel
theorem dX0_setAhead_67 : decode cX0_setAhead 67 = .ok (.invokestatic 60, 3) := by decide +kernel
theorem dX0_setAhead_70 : decode cX0_setAhead 70 = .ok (.iadd, 1) := by decide +kernel
theorem dX0_setAhead_71 : decode cX0_setAhead 71 = .ok (.ireturn, 1) := by decide +kernel
theorem dX0_setAhead_72 : decode cX0_setAhead 72 = .ok (.iload 5, 2) := by decide +kernel
theorem dX0_setAhead_74 : decode cX0_setAhead 74 = .ok (.iload 6, 2) := by decide +kernel
theorem dX0_setAhead_76 : decode cX0_setAhead 76 = .ok (.ineg, 1) := by decide +kernel
theorem dX0_setAhead_77 : decode cX0_setAhead 77 = .ok (.iload 5, 2) := by decide +kernel
