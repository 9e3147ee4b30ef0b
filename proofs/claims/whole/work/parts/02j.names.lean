theorem dX4_wide_166 : decode cX4_wide 166 = .ok (.lload 10, 2) := by decide +kernel
theorem dX4_wide_168 : decode cX4_wide 168 = .ok (.lload 12, 2) := by decide +kernel
theorem dX4_wide_170 : decode cX4_wide 170 = .ok (.lsub, 1) := by decide +kernel
theorem dX4_wide_171 : decode cX4_wide 171 = .ok (.lmul, 1) := by decide +kernel
theorem dX4_wide_172 : decode cX4_wide 172 = .ok (.lload 8, 2) := by decide +kernel
theorem dX4_wide_174 : decode cX4_wide 174 = .ok (.ldiv, 1) := by decide +kernel
theorem dX4_wide_175 : decode cX4_wide 175 = .ok (.lsub, 1) := by decide +kernel
theorem dX4_wide_176 : decode cX4_wide 176 = .ok (.l2i, 1) := by decide +kernel
theorem dX4_wide_177 : decode cX4_wide 177 = .ok (.istore 14, 2) := by decide +kernel
theorem dX4_wide_179 : decode cX4_wide 179 = .ok (.lload 4, 2) := by decide +kernel
theorem dX4_wide_181 : decode cX4_wide 181 = .ok (.lconst 0, 1) := by decide +kernel
theorem dX4_wide_182 : decode cX4_wide 182 = .ok (.lcmp, 1) := by decide +kernel
theorem dX4_wide_183 : decode cX4_wide 183 = .ok (.ifCond .ge 15, 3) := by decide +kernel
theorem dX4_wide_186 : decode cX4_wide 186 = .ok (.aload_n 0, 1) := by decide +kernel
theorem dX4_wide_187 : decode cX4_wide 187 = .ok (.getfield 13, 3) := by decide +kernel
theorem dX4_wide_190 : decode cX4_wide 190 = .ok (.iload_n 3, 1) := by decide +kernel
theorem dX4_wide_191 : decode cX4_wide 191 = .ok (.iaload, 1) := by decide +kernel
theorem dX4_wide_192 : decode cX4_wide 192 = .ok (.iload 14, 2) := by decide +kernel
theorem dX4_wide_194 : decode cX4_wide 194 = .ok (.isub, 1) := by decide +kernel
theorem dX4_wide_195 : decode cX4_wide 195 = .ok (.goto 12, 3) := by decide +kernel
theorem dX4_wide_198 : decode cX4_wide 198 = .ok (.aload_n 0, 1) := by decide +kernel
theorem dX4_wide_199 : decode cX4_wide 199 = .ok (.getfield 13, 3) := by decide +kernel
theorem dX4_wide_202 : decode cX4_wide 202 = .ok (.iload_n 3, 1) := by decide +kernel
theorem dX4_wide_203 : decode cX4_wide 203 = .ok (.iaload, 1) := by decide +kernel
theorem dX4_wide_204 : decode cX4_wide 204 = .ok (.iload 14, 2) := by decide +kernel
theorem dX4_wide_206 : decode cX4_wide 206 = .ok (.iadd, 1) := by decide +kernel
theorem dX4_wide_207 : decode cX4_wide 207 = .ok (.ireturn, 1) := by decide +kernel
set_option maxRecDepth 20000 in
theorem ggX4_set_X4_isBar : GoodIn wsX4_set wsX4_isBar := goodIn_r _ [6, 7, 8, 9, 5, 10, 94, 95, 96, 97, 98, 99, 100, 101, 102, 103, 104, 105, 106, 107, 108, 109, 110, 111] rfl (by decide +kernel)
set_option maxRecDepth 20000 in
theorem gX4_set_X4_isBar : GoodIn wsX4_set (wsV RX4 72 RX4 yX4_isBar wsX4_isBar) := goodIn_app (goodIn_of _ (by decide +kernel)) ggX4_set_X4_isBar
set_option maxRecDepth 20000 in
theorem ggX4_set_X4_in : GoodIn wsX4_set wsX4_in := goodIn_r _ [10] rfl (by decide +kernel)
set_option maxRecDepth 20000 in
theorem gX4_set_X4_in : GoodIn wsX4_set (va_wsS RX4 60 yX4_in wsX4_in) := goodIn_app (goodIn_of _ (by decide +kernel)) ggX4_set_X4_in
set_option maxRecDepth 20000 in
theorem ggX4_set_X4_isThere : GoodIn wsX4_set wsX4_isThere := goodIn_r _ [14, 15, 16, 17, 18, 19, 5, 20, 21, 22, 7, 23, 24, 25, 26, 27, 28, 29, 30, 31, 32, 33, 34, 35, 36, 37, 38, 39, 40, 41, 42, 43, 44, 45, 46, 47, 48, 49, 50, 51, 52, 53, 54, 55, 56, 57, 58, 59, 60, 61, 62, 63, 64, 65, 66, 67, 68, 69, 1, 70, 71, 72, 73, 74, 75, 76, 77, 78, 79, 80, 81, 82, 83, 84, 85, 94, 95, 96, 97, 98, 99, 100, 101, 102, 103, 104, 105, 106, 107, 108, 109, 110, 111] rfl (by decide +kernel)
set_option maxRecDepth 20000 in
theorem gX4_set_X4_isThere : GoodIn wsX4_set (wsV RX4 143 RX4 yX4_isThere wsX4_isThere) := goodIn_app (goodIn_of _ (by decide +kernel)) ggX4_set_X4_isThere
set_option maxRecDepth 20000 in
theorem ggX4_set_X4_lineOf : GoodIn wsX4_set wsX4_lineOf := goodIn_r _ [89, 1, 94, 95, 96, 97, 98, 99, 100, 101, 102, 103, 104, 105, 106, 107, 108, 109, 110, 111] rfl (by decide +kernel)
set_option maxRecDepth 20000 in
theorem gX4_set_X4_lineOf : GoodIn wsX4_set (wsV RX4 153 RX4 yX4_lineOf wsX4_lineOf) := goodIn_app (goodIn_of _ (by decide +kernel)) ggX4_set_X4_lineOf
set_option maxRecDepth 20000 in
theorem ggX4_set_X4_wide : GoodIn wsX4_set wsX4_wide := goodIn_r _ [93, 43, 57, 58, 59, 60, 5, 61, 44, 45, 46, 47, 48, 53, 54, 55, 56, 94, 95, 96, 97, 98, 99, 100, 101, 102, 103, 104, 105, 106, 107, 108, 109, 110, 111] rfl (by decide +kernel)
set_option maxRecDepth 20000 in
theorem gX4_set_X4_wide : GoodIn wsX4_set (wsV RX4 156 RX4 yX4_wide wsX4_wide) := goodIn_app (goodIn_of _ (by decide +kernel)) ggX4_set_X4_wide
theorem dX4_set_0 : decode cX4_set 0 = .ok (.aload_n 0, 1) := by decide +kernel
theorem dX4_set_1 : decode cX4_set 1 = .ok (.iload_n 1, 1) := by decide +kernel
theorem dX4_set_2 : decode cX4_set 2 = .ok (.invokevirtual 72, 3) := by decide +kernel
theorem dX4_set_5 : decode cX4_set 5 = .ok (.ifCond .ne 5, 3) := by decide +kernel
theorem dX4_set_8 : decode cX4_set 8 = .ok (.iconst (-1), 1) := by decide +kernel
theorem dX4_set_9 : decode cX4_set 9 = .ok (.ireturn, 1) := by decide +kernel
theorem dX4_set_10 : decode cX4_set 10 = .ok (.iload_n 2, 1) := by decide +kernel
theorem dX4_set_11 : decode cX4_set 11 = .ok (.iconst 0, 1) := by decide +kernel
theorem dX4_set_12 : decode cX4_set 12 = .ok (.iconst 2, 1) := by decide +kernel
theorem dX4_set_13 : decode cX4_set 13 = .ok (.invokestatic 60, 3) := by decide +kernel
theorem dX4_set_16 : decode cX4_set 16 = .ok (.ifCond .ne 6, 3) := by decide +kernel
theorem dX4_set_19 : decode cX4_set 19 = .ok (.bipush (-2), 2) := by decide +kernel
theorem dX4_set_21 : decode cX4_set 21 = .ok (.ireturn, 1) := by decide +kernel
theorem dX4_set_22 : decode cX4_set 22 = .ok (.aload_n 0, 1) := by decide +kernel
theorem dX4_set_23 : decode cX4_set 23 = .ok (.invokevirtual 143, 3) := by decide +kernel
theorem dX4_set_26 : decode cX4_set 26 = .ok (.ifCond .ne 6, 3) := by decide +kernel
theorem dX4_set_29 : decode cX4_set 29 = .ok (.bipush (-3), 2) := by decide +kernel
theorem dX4_set_31 : decode cX4_set 31 = .ok (.ireturn, 1) := by decide +kernel
theorem dX4_set_32 : decode cX4_set 32 = .ok (.aload_n 0, 1) := by decide +kernel
theorem dX4_set_33 : decode cX4_set 33 = .ok (.iload_n 1, 1) := by decide +kernel
theorem dX4_set_34 : decode cX4_set 34 = .ok (.invokevirtual 153, 3) := by decide +kernel
theorem dX4_set_37 : decode cX4_set 37 = .ok (.istore_n 3, 1) := by decide +kernel
theorem dX4_set_38 : decode cX4_set 38 = .ok (.aload_n 0, 1) := by decide +kernel
theorem dX4_set_39 : decode cX4_set 39 = .ok (.getfield 27, 3) := by decide +kernel
theorem dX4_set_42 : decode cX4_set 42 = .ok (.iload_n 3, 1) := by decide +kernel
theorem dX4_set_43 : decode cX4_set 43 = .ok (.iaload, 1) := by decide +kernel
theorem dX4_set_44 : decode cX4_set 44 = .ok (.istore 4, 2) := by decide +kernel
theorem dX4_set_46 : decode cX4_set 46 = .ok (.aload_n 0, 1) := by decide +kernel
theorem dX4_set_47 : decode cX4_set 47 = .ok (.getfield 27, 3) := by decide +kernel
theorem dX4_set_50 : decode cX4_set 50 = .ok (.iload_n 3, 1) := by decide +kernel
theorem dX4_set_51 : decode cX4_set 51 = .ok (.iconst 1, 1) := by decide +kernel
theorem dX4_set_52 : decode cX4_set 52 = .ok (.iadd, 1) := by decide +kernel
theorem dX4_set_53 : decode cX4_set 53 = .ok (.iaload, 1) := by decide +kernel
theorem dX4_set_54 : decode cX4_set 54 = .ok (.iconst 1, 1) := by decide +kernel
theorem dX4_set_55 : decode cX4_set 55 = .ok (.isub, 1) := by decide +kernel
theorem dX4_set_56 : decode cX4_set 56 = .ok (.istore 5, 2) := by decide +kernel
theorem dX4_set_58 : decode cX4_set 58 = .ok (.iload_n 2, 1) := by decide +kernel
theorem dX4_set_59 : decode cX4_set 59 = .ok (.ifCond .ne 5, 3) := by decide +kernel
theorem dX4_set_62 : decode cX4_set 62 = .ok (.iload_n 3, 1) := by decide +kernel
theorem dX4_set_63 : decode cX4_set 63 = .ok (.ireturn, 1) := by decide +kernel
theorem dX4_set_64 : decode cX4_set 64 = .ok (.iload_n 2, 1) := by decide +kernel
theorem dX4_set_65 : decode cX4_set 65 = .ok (.iconst 1, 1) := by decide +kernel
theorem dX4_set_66 : decode cX4_set 66 = .ok (.if_icmp .ne 13, 3) := by decide +kernel
theorem dX4_set_69 : decode cX4_set 69 = .ok (.aload_n 0, 1) := by decide +kernel
theorem dX4_set_70 : decode cX4_set 70 = .ok (.iload 4, 2) := by decide +kernel
theorem dX4_set_72 : decode cX4_set 72 = .ok (.iload 5, 2) := by decide +kernel
theorem dX4_set_74 : decode cX4_set 74 = .ok (.iload_n 1, 1) := by decide +kernel
theorem dX4_set_75 : decode cX4_set 75 = .ok (.invokevirtual 156, 3) := by decide +kernel
theorem dX4_set_78 : decode cX4_set 78 = .ok (.ireturn, 1) := by decide +kernel
theorem dX4_set_79 : decode cX4_set 79 = .ok (.iconst 0, 1) := by decide +kernel
theorem dX4_set_80 : decode cX4_set 80 = .ok (.istore 6, 2) := by decide +kernel
theorem dX4_set_82 : decode cX4_set 82 = .ok (.iload 4, 2) := by decide +kernel
theorem dX4_set_84 : decode cX4_set 84 = .ok (.istore 7, 2) := by decide +kernel
theorem dX4_set_86 : decode cX4_set 86 = .ok (.iload 7, 2) := by decide +kernel
theorem dX4_set_88 : decode cX4_set 88 = .ok (.iload_n 1, 1) := by decide +kernel
theorem dX4_set_89 : decode cX4_set 89 = .ok (.if_icmp .ge 24, 3) := by decide +kernel
theorem dX4_set_92 : decode cX4_set 92 = .ok (.iload 6, 2) := by decide +kernel
theorem dX4_set_94 : decode cX4_set 94 = .ok (.aload_n 0, 1) := by decide +kernel
theorem dX4_set_95 : decode cX4_set 95 = .ok (.iload 4, 2) := by decide +kernel
theorem dX4_set_97 : decode cX4_set 97 = .ok (.iload 5, 2) := by decide +kernel
theorem dX4_set_99 : decode cX4_set 99 = .ok (.iload 7, 2) := by decide +kernel
theorem dX4_set_101 : decode cX4_set 101 = .ok (.invokevirtual 156, 3) := by decide +kernel
theorem dX4_set_104 : decode cX4_set 104 = .ok (.iadd, 1) := by decide +kernel
theorem dX4_set_105 : decode cX4_set 105 = .ok (.istore 6, 2) := by decide +kernel
theorem dX4_set_107 : decode cX4_set 107 = .ok (.iinc 7 1, 3) := by decide +kernel
theorem dX4_set_110 : decode cX4_set 110 = .ok (.goto (-24), 3) := by decide +kernel
theorem dX4_set_113 : decode cX4_set 113 = .ok (.iload 6, 2) := by decide +kernel
theorem dX4_set_115 : decode cX4_set 115 = .ok (.ireturn, 1) := by decide +kernel
set_option maxRecDepth 20000 in
theorem ggX4_ends_X4_isBar : GoodIn wsX4_ends wsX4_isBar := goodIn_r _ [6, 7, 8, 9, 5, 10, 90, 91, 92, 93, 94, 95, 96, 97, 98, 99, 100, 101, 102, 103, 104, 105, 106, 107] rfl (by decide +kernel)
set_option maxRecDepth 20000 in
theorem gX4_ends_X4_isBar : GoodIn wsX4_ends (wsV RX4 72 RX4 yX4_isBar wsX4_isBar) := goodIn_app (goodIn_of _ (by decide +kernel)) ggX4_ends_X4_isBar
set_option maxRecDepth 20000 in
theorem ggX4_ends_X4_isThere : GoodIn wsX4_ends wsX4_isThere := goodIn_r _ [14, 15, 16, 17, 18, 19, 5, 20, 21, 22, 7, 23, 24, 25, 26, 27, 28, 29, 30, 31, 32, 33, 34, 35, 36, 37, 38, 39, 40, 41, 42, 43, 44, 45, 46, 47, 48, 49, 50, 51, 52, 53, 54, 55, 56, 57, 58, 59, 60, 61, 62, 63, 64, 65, 66, 67, 68, 69, 1, 70, 71, 72, 73, 74, 75, 76, 77, 78, 79, 80, 81, 82, 83, 84, 85, 90, 91, 92, 93, 94, 95, 96, 97, 98, 99, 100, 101, 102, 103, 104, 105, 106, 107] rfl (by decide +kernel)
set_option maxRecDepth 20000 in
theorem gX4_ends_X4_isThere : GoodIn wsX4_ends (wsV RX4 143 RX4 yX4_isThere wsX4_isThere) := goodIn_app (goodIn_of _ (by decide +kernel)) ggX4_ends_X4_isThere
set_option maxRecDepth 20000 in
theorem ggX4_ends_X4_lineOf : GoodIn wsX4_ends wsX4_lineOf := goodIn_r _ [89, 1, 90, 91, 92, 93, 94, 95, 96, 97, 98, 99, 100, 101, 102, 103, 104, 105, 106, 107] rfl (by decide +kernel)
set_option maxRecDepth 20000 in
theorem gX4_ends_X4_lineOf : GoodIn wsX4_ends (wsV RX4 153 RX4 yX4_lineOf wsX4_lineOf) := goodIn_app (goodIn_of _ (by decide +kernel)) ggX4_ends_X4_lineOf
theorem dX4_ends_0 : decode cX4_ends 0 = .ok (.aload_n 0, 1) := by decide +kernel
theorem dX4_ends_1 : decode cX4_ends 1 = .ok (.iload_n 1, 1) := by decide +kernel
theorem dX4_ends_2 : decode cX4_ends 2 = .ok (.invokevirtual 72, 3) := by decide +kernel
theorem dX4_ends_5 : decode cX4_ends 5 = .ok (.ifCond .eq 10, 3) := by decide +kernel
theorem dX4_ends_8 : decode cX4_ends 8 = .ok (.aload_n 0, 1) := by decide +kernel
theorem dX4_ends_9 : decode cX4_ends 9 = .ok (.invokevirtual 143, 3) := by decide +kernel
theorem dX4_ends_12 : decode cX4_ends 12 = .ok (.ifCond .ne 5, 3) := by decide +kernel
theorem dX4_ends_15 : decode cX4_ends 15 = .ok (.iconst 0, 1) := by decide +kernel
theorem dX4_ends_16 : decode cX4_ends 16 = .ok (.ireturn, 1) := by decide +kernel
theorem dX4_ends_17 : decode cX4_ends 17 = .ok (.aload_n 0, 1) := by decide +kernel
theorem dX4_ends_18 : decode cX4_ends 18 = .ok (.getfield 27, 3) := by decide +kernel
theorem dX4_ends_21 : decode cX4_ends 21 = .ok (.aload_n 0, 1) := by decide +kernel
theorem dX4_ends_22 : decode cX4_ends 22 = .ok (.iload_n 1, 1) := by decide +kernel
theorem dX4_ends_23 : decode cX4_ends 23 = .ok (.invokevirtual 153, 3) := by decide +kernel
theorem dX4_ends_26 : decode cX4_ends 26 = .ok (.iconst 1, 1) := by decide +kernel
theorem dX4_ends_27 : decode cX4_ends 27 = .ok (.iadd, 1) := by decide +kernel
theorem dX4_ends_28 : decode cX4_ends 28 = .ok (.iaload, 1) := by decide +kernel
theorem dX4_ends_29 : decode cX4_ends 29 = .ok (.iload_n 1, 1) := by decide +kernel
theorem dX4_ends_30 : decode cX4_ends 30 = .ok (.iconst 1, 1) := by decide +kernel
theorem dX4_ends_31 : decode cX4_ends 31 = .ok (.iadd, 1) := by decide +kernel
theorem dX4_ends_32 : decode cX4_ends 32 = .ok (.if_icmp .ne 7, 3) := by decide +kernel
theorem dX4_ends_35 : decode cX4_ends 35 = .ok (.iconst 1, 1) := by decide +kernel
theorem dX4_ends_36 : decode cX4_ends 36 = .ok (.goto 4, 3) := by decide +kernel
theorem dX4_ends_39 : decode cX4_ends 39 = .ok (.iconst 0, 1) := by decide +kernel
theorem dX4_ends_40 : decode cX4_ends 40 = .ok (.ireturn, 1) := by decide +kernel
set_option maxRecDepth 20000 in
theorem ggX4_badness_X4_isBar : GoodIn wsX4_badness wsX4_isBar := goodIn_r _ [6, 7, 8, 9, 5, 10, 36, 37, 38, 39, 40, 41, 42, 43, 44, 45, 46, 47, 48, 49, 50, 51, 52, 53] rfl (by decide +kernel)
set_option maxRecDepth 20000 in
theorem gX4_badness_X4_isBar : GoodIn wsX4_badness (wsV RX4 72 RX4 yX4_isBar wsX4_isBar) := goodIn_app (goodIn_of _ (by decide +kernel)) ggX4_badness_X4_isBar
set_option maxRecDepth 20000 in
theorem ggX4_badness_X4_mayBe : GoodIn wsX4_badness wsX4_mayBe := goodIn_r _ [14, 15, 7, 16, 17, 18, 19, 20, 5, 21, 36, 37, 38, 39, 40, 41, 42, 43, 44, 45, 46, 47, 48, 49, 50, 51, 52, 53] rfl (by decide +kernel)
set_option maxRecDepth 20000 in
theorem gX4_badness_X4_mayBe : GoodIn wsX4_badness (wsV RX4 95 RX4 yX4_mayBe wsX4_mayBe) := goodIn_app (goodIn_of _ (by decide +kernel)) ggX4_badness_X4_mayBe
set_option maxRecDepth 20000 in
theorem ggX4_badness_X4_costOf : GoodIn wsX4_badness wsX4_costOf := goodIn_r _ [25, 26, 7, 27, 28, 29, 5, 30, 17, 31, 18, 19, 20, 21, 32, 33, 34, 35, 16, 36, 37, 38, 39, 40, 41, 42, 43, 44, 45, 46, 47, 48, 49, 50, 51, 52, 53] rfl (by decide +kernel)
set_option maxRecDepth 20000 in
theorem gX4_badness_X4_costOf : GoodIn wsX4_badness (wsV RX4 98 RX4 yX4_costOf wsX4_costOf) := goodIn_app (goodIn_of _ (by decide +kernel)) ggX4_badness_X4_costOf
theorem dX4_badness_0 : decode cX4_badness 0 = .ok (.aload_n 0, 1) := by decide +kernel
theorem dX4_badness_1 : decode cX4_badness 1 = .ok (.iload_n 1, 1) := by decide +kernel
theorem dX4_badness_2 : decode cX4_badness 2 = .ok (.invokevirtual 72, 3) := by decide +kernel
theorem dX4_badness_5 : decode cX4_badness 5 = .ok (.ifCond .eq 34, 3) := by decide +kernel
theorem dX4_badness_8 : decode cX4_badness 8 = .ok (.aload_n 0, 1) := by decide +kernel
theorem dX4_badness_9 : decode cX4_badness 9 = .ok (.iload_n 2, 1) := by decide +kernel
theorem dX4_badness_10 : decode cX4_badness 10 = .ok (.invokevirtual 72, 3) := by decide +kernel
theorem dX4_badness_13 : decode cX4_badness 13 = .ok (.ifCond .eq 26, 3) := by decide +kernel
theorem dX4_badness_16 : decode cX4_badness 16 = .ok (.iload_n 2, 1) := by decide +kernel
theorem dX4_badness_17 : decode cX4_badness 17 = .ok (.iload_n 1, 1) := by decide +kernel
theorem dX4_badness_18 : decode cX4_badness 18 = .ok (.if_icmp .lt 21, 3) := by decide +kernel
theorem dX4_badness_21 : decode cX4_badness 21 = .ok (.aload_n 0, 1) := by decide +kernel
theorem dX4_badness_22 : decode cX4_badness 22 = .ok (.iload_n 1, 1) := by decide +kernel
theorem dX4_badness_23 : decode cX4_badness 23 = .ok (.iload_n 2, 1) := by decide +kernel
theorem dX4_badness_24 : decode cX4_badness 24 = .ok (.invokevirtual 95, 3) := by decide +kernel
theorem dX4_badness_27 : decode cX4_badness 27 = .ok (.ifCond .eq 12, 3) := by decide +kernel
theorem dX4_badness_30 : decode cX4_badness 30 = .ok (.aload_n 0, 1) := by decide +kernel
theorem dX4_badness_31 : decode cX4_badness 31 = .ok (.iload_n 1, 1) := by decide +kernel
theorem dX4_badness_32 : decode cX4_badness 32 = .ok (.iload_n 2, 1) := by decide +kernel
theorem dX4_badness_33 : decode cX4_badness 33 = .ok (.invokevirtual 98, 3) := by decide +kernel
theorem dX4_badness_36 : decode cX4_badness 36 = .ok (.goto 6, 3) := by decide +kernel
theorem dX4_badness_39 : decode cX4_badness 39 = .ok (.ldc2_w 147, 3) := by decide +kernel
theorem dX4_badness_42 : decode cX4_badness 42 = .ok (.lreturn, 1) := by decide +kernel
set_option maxRecDepth 20000 in
theorem ggX4_would_X4_isBar : GoodIn wsX4_would wsX4_isBar := goodIn_r _ [8, 9, 10, 11, 7, 12, 91, 92, 93, 94, 95, 96, 97, 98, 99, 100, 101, 102, 103, 104, 105, 106, 107, 108] rfl (by decide +kernel)
set_option maxRecDepth 20000 in
theorem gX4_would_X4_isBar : GoodIn wsX4_would (wsV RX4 72 RX4 yX4_isBar wsX4_isBar) := goodIn_app (goodIn_of _ (by decide +kernel)) ggX4_would_X4_isBar
set_option maxRecDepth 20000 in
theorem ggX4_would_X4_in : GoodIn wsX4_would wsX4_in := goodIn_r _ [12] rfl (by decide +kernel)
set_option maxRecDepth 20000 in
theorem gX4_would_X4_in : GoodIn wsX4_would (va_wsS RX4 60 yX4_in wsX4_in) := goodIn_app (goodIn_of _ (by decide +kernel)) ggX4_would_X4_in
set_option maxRecDepth 20000 in
theorem ggX4_would_X4_sum : GoodIn wsX4_would wsX4_sum := goodIn_r _ [16, 17, 18, 1, 19, 20, 21, 7, 22, 23, 24, 25, 26, 27, 3, 28, 9, 29, 30, 31, 32, 33, 34, 35, 36, 37, 38, 39, 40, 41, 42, 43, 44, 45, 46, 2, 47, 48, 49, 50, 51, 52, 53, 54, 55, 56, 57, 58, 59, 60, 61, 62, 63, 64, 65, 66, 67, 68, 69, 70, 71, 72, 73, 74, 75, 76, 77, 78, 79, 80, 81, 82, 83, 84, 85, 86, 87, 88, 89, 90, 91, 92, 93, 94, 95, 96, 97, 98, 99, 100, 101, 102, 103, 104, 105, 106, 107, 108] rfl (by decide +kernel)
set_option maxRecDepth 20000 in
theorem gX4_would_X4_sum : GoodIn wsX4_would (wsV RX4 160 RX4 yX4_sum wsX4_sum) := goodIn_app (goodIn_of _ (by decide +kernel)) ggX4_would_X4_sum
theorem dX4_would_0 : decode cX4_would 0 = .ok (.aload_n 0, 1) := by decide +kernel
theorem dX4_would_1 : decode cX4_would 1 = .ok (.iload_n 1, 1) := by decide +kernel
theorem dX4_would_2 : decode cX4_would 2 = .ok (.invokevirtual 72, 3) := by decide +kernel
theorem dX4_would_5 : decode cX4_would 5 = .ok (.ifCond .eq 12, 3) := by decide +kernel
theorem dX4_would_8 : decode cX4_would 8 = .ok (.iload_n 2, 1) := by decide +kernel
theorem dX4_would_9 : decode cX4_would 9 = .ok (.iconst 0, 1) := by decide +kernel
theorem dX4_would_10 : decode cX4_would 10 = .ok (.iconst 2, 1) := by decide +kernel
theorem dX4_would_11 : decode cX4_would 11 = .ok (.invokestatic 60, 3) := by decide +kernel
theorem dX4_would_14 : decode cX4_would 14 = .ok (.ifCond .ne 7, 3) := by decide +kernel
theorem dX4_would_17 : decode cX4_would 17 = .ok (.ldc2_w 147, 3) := by decide +kernel
theorem dX4_would_20 : decode cX4_would 20 = .ok (.lreturn, 1) := by decide +kernel
theorem dX4_would_21 : decode cX4_would 21 = .ok (.aload_n 0, 1) := by decide +kernel
theorem dX4_would_22 : decode cX4_would 22 = .ok (.getfield 16, 3) := by decide +kernel
theorem dX4_would_25 : decode cX4_would 25 = .ok (.iconst 3, 1) := by decide +kernel
theorem dX4_would_26 : decode cX4_would 26 = .ok (.iload_n 1, 1) := by decide +kernel
theorem dX4_would_27 : decode cX4_would 27 = .ok (.imul, 1) := by decide +kernel
theorem dX4_would_28 : decode cX4_would 28 = .ok (.iload_n 2, 1) := by decide +kernel
theorem dX4_would_29 : decode cX4_would 29 = .ok (.iadd, 1) := by decide +kernel
theorem dX4_would_30 : decode cX4_would 30 = .ok (.baload, 1) := by decide +kernel
theorem dX4_would_31 : decode cX4_would 31 = .ok (.istore_n 3, 1) := by decide +kernel
theorem dX4_would_32 : decode cX4_would 32 = .ok (.aload_n 0, 1) := by decide +kernel
theorem dX4_would_33 : decode cX4_would 33 = .ok (.getfield 16, 3) := by decide +kernel
theorem dX4_would_36 : decode cX4_would 36 = .ok (.iconst 3, 1) := by decide +kernel
theorem dX4_would_37 : decode cX4_would 37 = .ok (.iload_n 1, 1) := by decide +kernel
theorem dX4_would_38 : decode cX4_would 38 = .ok (.imul, 1) := by decide +kernel
theorem dX4_would_39 : decode cX4_would 39 = .ok (.iload_n 2, 1) := by decide +kernel
theorem dX4_would_40 : decode cX4_would 40 = .ok (.iadd, 1) := by decide +kernel
theorem dX4_would_41 : decode cX4_would 41 = .ok (.iconst 1, 1) := by decide +kernel
theorem dX4_would_42 : decode cX4_would 42 = .ok (.bastore, 1) := by decide +kernel
theorem dX4_would_43 : decode cX4_would 43 = .ok (.aload_n 0, 1) := by decide +kernel
theorem dX4_would_44 : decode cX4_would 44 = .ok (.iconst 0, 1) := by decide +kernel
theorem dX4_would_45 : decode cX4_would 45 = .ok (.putfield 68, 3) := by decide +kernel
theorem dX4_would_48 : decode cX4_would 48 = .ok (.aload_n 0, 1) := by decide +kernel
theorem dX4_would_49 : decode cX4_would 49 = .ok (.invokevirtual 160, 3) := by decide +kernel
theorem dX4_would_52 : decode cX4_would 52 = .ok (.lstore 4, 2) := by decide +kernel
theorem dX4_would_54 : decode cX4_would 54 = .ok (.aload_n 0, 1) := by decide +kernel
theorem dX4_would_55 : decode cX4_would 55 = .ok (.getfield 16, 3) := by decide +kernel
theorem dX4_would_58 : decode cX4_would 58 = .ok (.iconst 3, 1) := by decide +kernel
theorem dX4_would_59 : decode cX4_would 59 = .ok (.iload_n 1, 1) := by decide +kernel
theorem dX4_would_60 : decode cX4_would 60 = .ok (.imul, 1) := by decide +kernel
theorem dX4_would_61 : decode cX4_would 61 = .ok (.iload_n 2, 1) := by decide +kernel
theorem dX4_would_62 : decode cX4_would 62 = .ok (.iadd, 1) := by decide +kernel
theorem dX4_would_63 : decode cX4_would 63 = .ok (.iload_n 3, 1) := by decide +kernel
theorem dX4_would_64 : decode cX4_would 64 = .ok (.bastore, 1) := by decide +kernel
theorem dX4_would_65 : decode cX4_would 65 = .ok (.aload_n 0, 1) := by decide +kernel
theorem dX4_would_66 : decode cX4_would 66 = .ok (.iconst 0, 1) := by decide +kernel
theorem dX4_would_67 : decode cX4_would 67 = .ok (.putfield 68, 3) := by decide +kernel
theorem dX4_would_70 : decode cX4_would 70 = .ok (.lload 4, 2) := by decide +kernel
theorem dX4_would_72 : decode cX4_would 72 = .ok (.lreturn, 1) := by decide +kernel
theorem dJ9_max_7cf53_0 : decode cJ9_max_7cf53 0 = .ok (.iload_n 0, 1) := by decide +kernel
theorem dJ9_max_7cf53_1 : decode cJ9_max_7cf53 1 = .ok (.iload_n 1, 1) := by decide +kernel
theorem dJ9_max_7cf53_2 : decode cJ9_max_7cf53 2 = .ok (.if_icmp .lt 7, 3) := by decide +kernel
theorem dJ9_max_7cf53_5 : decode cJ9_max_7cf53 5 = .ok (.iload_n 0, 1) := by decide +kernel
theorem dJ9_max_7cf53_6 : decode cJ9_max_7cf53 6 = .ok (.goto 4, 3) := by decide +kernel
theorem dJ9_max_7cf53_9 : decode cJ9_max_7cf53 9 = .ok (.iload_n 1, 1) := by decide +kernel
theorem dJ9_max_7cf53_10 : decode cJ9_max_7cf53 10 = .ok (.ireturn, 1) := by decide +kernel
theorem dJ9_min_7cf53_0 : decode cJ9_min_7cf53 0 = .ok (.iload_n 0, 1) := by decide +kernel
theorem dJ9_min_7cf53_1 : decode cJ9_min_7cf53 1 = .ok (.iload_n 1, 1) := by decide +kernel
theorem dJ9_min_7cf53_2 : decode cJ9_min_7cf53 2 = .ok (.if_icmp .gt 7, 3) := by decide +kernel
theorem dJ9_min_7cf53_5 : decode cJ9_min_7cf53 5 = .ok (.iload_n 0, 1) := by decide +kernel
theorem dJ9_min_7cf53_6 : decode cJ9_min_7cf53 6 = .ok (.goto 4, 3) := by decide +kernel
theorem dJ9_min_7cf53_9 : decode cJ9_min_7cf53 9 = .ok (.iload_n 1, 1) := by decide +kernel
theorem dJ9_min_7cf53_10 : decode cJ9_min_7cf53 10 = .ok (.ireturn, 1) := by decide +kernel
theorem dL_cell_0 : decode cL_cell 0 = .ok (.iload_n 1, 1) := by decide +kernel
theorem dL_cell_1 : decode cL_cell 1 = .ok (.aload_n 0, 1) := by decide +kernel
theorem dL_cell_2 : decode cL_cell 2 = .ok (.arraylength, 1) := by decide +kernel
theorem dL_cell_3 : decode cL_cell 3 = .ok (.if_icmp .ge 9, 3) := by decide +kernel
theorem dL_cell_6 : decode cL_cell 6 = .ok (.aload_n 0, 1) := by decide +kernel
theorem dL_cell_7 : decode cL_cell 7 = .ok (.iload_n 1, 1) := by decide +kernel
theorem dL_cell_8 : decode cL_cell 8 = .ok (.iaload, 1) := by decide +kernel
theorem dL_cell_9 : decode cL_cell 9 = .ok (.goto 4, 3) := by decide +kernel
theorem dL_cell_12 : decode cL_cell 12 = .ok (.iconst 0, 1) := by decide +kernel
theorem dL_cell_13 : decode cL_cell 13 = .ok (.ireturn, 1) := by decide +kernel
set_option maxRecDepth 20000 in
theorem ggL_law_L_cell : GoodIn wsL_law wsL_cell := goodIn_r _ [9] rfl (by decide +kernel)
set_option maxRecDepth 20000 in
theorem gL_law_L_cell : GoodIn wsL_law (va_wsS RL 9 yL_cell wsL_cell) := goodIn_app (goodIn_of _ (by decide +kernel)) ggL_law_L_cell
set_option maxRecDepth 20000 in
theorem ggL_law_X3_init : GoodIn wsL_law wsX3_init := goodIn_r _ [12, 13, 14, 15, 16, 17, 18, 19, 20, 21, 22, 23, 24, 25, 26, 27, 28, 29, 30, 2, 31, 32, 33, 34, 35, 36, 37, 38, 39, 40, 41, 42, 43, 44, 45, 46, 47, 48, 49, 50, 51, 52, 53, 54, 55, 56, 57, 58, 59, 60, 61, 62, 63, 64, 65, 66, 67, 68, 69, 70, 71, 72, 73, 74, 75, 76, 77, 500, 501, 502, 503, 504, 505, 506, 507, 478, 479, 480, 481, 508, 509, 510, 511, 512, 513, 514, 515, 516, 517, 518, 519, 520, 521, 522] rfl (by decide +kernel)
set_option maxRecDepth 20000 in
theorem gL_law_X3_init : GoodIn wsL_law (wsX3_init) := ggL_law_X3_init
set_option maxRecDepth 20000 in
theorem ggL_law_X4_init : GoodIn wsL_law wsX4_init := goodIn_r _ [80, 81, 14, 15, 47, 82, 83, 84, 85, 58, 86, 87, 88, 89, 90, 91, 92, 93, 94, 95, 96, 97, 98, 482, 483, 484, 485, 486, 487, 488, 489, 490, 491, 492, 493, 494, 495, 496, 497, 498, 499] rfl (by decide +kernel)
set_option maxRecDepth 20000 in
theorem gL_law_X4_init : GoodIn wsL_law (wsX4_init) := ggL_law_X4_init
set_option maxRecDepth 20000 in
theorem ggL_law_X3_bar : GoodIn wsL_law wsX3_bar := goodIn_r _ [102, 19, 103, 28, 104, 105, 2, 106, 107, 108, 109, 110, 111, 112, 18, 113, 43, 51, 52, 478, 479, 480, 481, 500, 501, 502, 503, 504, 505, 506, 507] rfl (by decide +kernel)
set_option maxRecDepth 20000 in
theorem gL_law_X3_bar : GoodIn wsL_law (wsV RL 21 RX3 yX3_bar wsX3_bar) := goodIn_app (goodIn_of _ (by decide +kernel)) ggL_law_X3_bar
set_option maxRecDepth 20000 in
theorem ggL_law_X4_bar : GoodIn wsL_law wsX4_bar := goodIn_r _ [117, 118, 82, 83, 119, 120, 121, 5, 122, 123, 124, 125, 482, 483, 484, 485, 486, 487, 488, 489, 490, 491, 492, 493, 494, 495, 496, 497, 498, 499] rfl (by decide +kernel)
set_option maxRecDepth 20000 in
theorem gL_law_X4_bar : GoodIn wsL_law (wsV RL 25 RX4 yX4_bar wsX4_bar) := goodIn_app (goodIn_of _ (by decide +kernel)) ggL_law_X4_bar
set_option maxRecDepth 20000 in
theorem ggL_law_X3_change : GoodIn wsL_law wsX3_change := goodIn_r _ [129, 19, 28, 130, 131, 132, 18, 133, 43, 104, 105, 2, 106, 107, 108, 109, 134, 135, 136, 137, 51, 52, 138, 139, 140, 141, 142, 143, 144, 145, 478, 479, 480, 481, 500, 501, 502, 503, 504, 505, 506, 507] rfl (by decide +kernel)
set_option maxRecDepth 20000 in
theorem gL_law_X3_change : GoodIn wsL_law (wsV RL 26 RX3 yX3_change wsX3_change) := goodIn_app (goodIn_of _ (by decide +kernel)) ggL_law_X3_change
set_option maxRecDepth 20000 in
theorem ggL_law_X4_change : GoodIn wsL_law wsX4_change := goodIn_r _ [149, 82, 83, 119, 150, 151, 152, 5, 153, 118, 123, 124, 125, 120, 121, 122, 482, 483, 484, 485, 486, 487, 488, 489, 490, 491, 492, 493, 494, 495, 496, 497, 498, 499] rfl (by decide +kernel)
set_option maxRecDepth 20000 in
theorem gL_law_X4_change : GoodIn wsL_law (wsV RL 30 RX4 yX4_change wsX4_change) := goodIn_app (goodIn_of _ (by decide +kernel)) ggL_law_X4_change
set_option maxRecDepth 20000 in
theorem ggL_law_X3_mark : GoodIn wsL_law wsX3_mark := goodIn_r _ [157, 19, 28, 130, 131, 132, 18, 133, 43, 107, 108, 2, 109, 158, 159, 160, 161, 50, 162, 163, 164, 165, 478, 479, 480, 481, 500, 501, 502, 503, 504, 505, 506, 507] rfl (by decide +kernel)
set_option maxRecDepth 20000 in
theorem gL_law_X3_mark : GoodIn wsL_law (wsV RL 31 RX3 yX3_mark wsX3_mark) := goodIn_app (goodIn_of _ (by decide +kernel)) ggL_law_X3_mark
set_option maxRecDepth 20000 in
theorem ggL_law_X4_mark : GoodIn wsL_law wsX4_mark := goodIn_r _ [169, 85, 119, 150, 151, 152, 5, 153, 118, 123, 124, 125, 482, 483, 484, 485, 486, 487, 488, 489, 490, 491, 492, 493, 494, 495, 496, 497, 498, 499] rfl (by decide +kernel)
set_option maxRecDepth 20000 in
theorem gL_law_X4_mark : GoodIn wsL_law (wsV RL 35 RX4 yX4_mark wsX4_mark) := goodIn_app (goodIn_of _ (by decide +kernel)) ggL_law_X4_mark
set_option maxRecDepth 20000 in
theorem ggL_law_X3_cost : GoodIn wsL_law wsX3_cost := goodIn_r _ [173, 174, 28, 19, 175, 107, 108, 2, 109, 478, 479, 480, 481, 500, 501, 502, 503, 504, 505, 506, 507] rfl (by decide +kernel)
set_option maxRecDepth 20000 in
theorem gL_law_X3_cost : GoodIn wsL_law (wsV RL 36 RX3 yX3_cost wsX3_cost) := goodIn_app (goodIn_of _ (by decide +kernel)) ggL_law_X3_cost
set_option maxRecDepth 20000 in
theorem ggL_law_X4_cost : GoodIn wsL_law wsX4_cost := goodIn_r _ [179, 180, 86, 119, 123, 124, 5, 125, 482, 483, 484, 485, 486, 487, 488, 489, 490, 491, 492, 493, 494, 495, 496, 497, 498, 499] rfl (by decide +kernel)
set_option maxRecDepth 20000 in
theorem gL_law_X4_cost : GoodIn wsL_law (wsV RL 39 RX4 yX4_cost wsX4_cost) := goodIn_app (goodIn_of _ (by decide +kernel)) ggL_law_X4_cost
set_option maxRecDepth 20000 in
theorem ggL_law_X3_count : GoodIn wsL_law wsX3_count := goodIn_r _ [184, 28, 19, 185, 107, 108, 2, 109, 478, 479, 480, 481, 500, 501, 502, 503, 504, 505, 506, 507] rfl (by decide +kernel)
set_option maxRecDepth 20000 in
theorem gL_law_X3_count : GoodIn wsL_law (wsV RL 40 RX3 yX3_count wsX3_count) := goodIn_app (goodIn_of _ (by decide +kernel)) ggL_law_X3_count
set_option maxRecDepth 20000 in
theorem ggL_law_X4_count : GoodIn wsL_law wsX4_count := goodIn_r _ [189, 190, 119, 123, 124, 5, 125, 482, 483, 484, 485, 486, 487, 488, 489, 490, 491, 492, 493, 494, 495, 496, 497, 498, 499] rfl (by decide +kernel)
set_option maxRecDepth 20000 in
theorem gL_law_X4_count : GoodIn wsL_law (wsV RL 44 RX4 yX4_count wsX4_count) := goodIn_app (goodIn_of _ (by decide +kernel)) ggL_law_X4_count
set_option maxRecDepth 20000 in
theorem ggL_law_X3_size : GoodIn wsL_law wsX3_size := goodIn_r _ [194, 28, 19, 195, 196, 107, 108, 2, 109, 478, 479, 480, 481, 500, 501, 502, 503, 504, 505, 506, 507] rfl (by decide +kernel)
set_option maxRecDepth 20000 in
theorem gL_law_X3_size : GoodIn wsL_law (wsV RL 45 RX3 yX3_size wsX3_size) := goodIn_app (goodIn_of _ (by decide +kernel)) ggL_law_X3_size
set_option maxRecDepth 20000 in
theorem ggL_law_X4_size : GoodIn wsL_law wsX4_size := goodIn_r _ [200, 93, 94, 119, 123, 124, 5, 125, 482, 483, 484, 485, 486, 487, 488, 489, 490, 491, 492, 493, 494, 495, 496, 497, 498, 499] rfl (by decide +kernel)
set_option maxRecDepth 20000 in
theorem gL_law_X4_size : GoodIn wsL_law (wsV RL 48 RX4 yX4_size wsX4_size) := goodIn_app (goodIn_of _ (by decide +kernel)) ggL_law_X4_size
set_option maxRecDepth 20000 in
theorem ggL_law_X3_bars : GoodIn wsL_law wsX3_bars := goodIn_r _ [204, 19, 103, 478, 479, 480, 481, 500, 501, 502, 503, 504, 505, 506, 507] rfl (by decide +kernel)
set_option maxRecDepth 20000 in
theorem gL_law_X3_bars : GoodIn wsL_law (wsV RL 49 RX3 yX3_bars wsX3_bars) := goodIn_app (goodIn_of _ (by decide +kernel)) ggL_law_X3_bars
set_option maxRecDepth 20000 in
theorem ggL_law_X4_bars : GoodIn wsL_law wsX4_bars := goodIn_r _ [208, 118, 482, 483, 484, 485, 486, 487, 488, 489, 490, 491, 492, 493, 494, 495, 496, 497, 498, 499] rfl (by decide +kernel)
set_option maxRecDepth 20000 in
theorem gL_law_X4_bars : GoodIn wsL_law (wsV RL 53 RX4 yX4_bars wsX4_bars) := goodIn_app (goodIn_of _ (by decide +kernel)) ggL_law_X4_bars
set_option maxRecDepth 20000 in
theorem ggL_law_X3_lines : GoodIn wsL_law wsX3_lines := goodIn_r _ [212, 27, 213, 214, 215, 216, 217, 2, 218, 28, 23, 19, 103, 219, 220, 221, 22, 222, 65, 57, 223, 224, 63, 64, 61, 62, 225, 226, 227, 228, 60, 59, 229, 230, 231, 18, 232, 48, 233, 159, 160, 161, 50, 234, 235, 236, 237, 238, 43, 239, 240, 241, 242, 243, 244, 245, 246, 51, 44, 247, 248, 249, 250, 142, 143, 144, 145, 52, 251, 252, 253, 254, 255, 256, 33, 34, 35, 257, 258, 259, 260, 261, 262, 263, 264, 265, 266, 267, 268, 269, 270, 271, 272, 273, 274, 275, 276, 277, 278, 279, 280, 281, 282, 283, 284, 285, 26, 286, 70, 71, 72, 73, 77, 76, 74, 75, 287, 288, 289, 290, 291, 292, 293, 294, 295, 296, 297, 298, 299, 300, 301, 302, 303, 478, 479, 480, 481, 515, 516, 517, 518, 519, 520, 521, 522, 500, 501, 502, 503, 504, 505, 506, 507, 508, 509, 510, 511, 512, 513, 514] rfl (by decide +kernel)
set_option maxRecDepth 20000 in
theorem gL_law_X3_lines : GoodIn wsL_law (wsV RL 54 RX3 yX3_lines wsX3_lines) := goodIn_app (goodIn_of _ (by decide +kernel)) ggL_law_X3_lines
set_option maxRecDepth 20000 in
theorem ggL_law_X4_lines : GoodIn wsL_law wsX4_lines := goodIn_r _ [307, 308, 309, 310, 311, 5, 312, 313, 314, 315, 316, 317, 318, 119, 190, 118, 94, 87, 319, 320, 321, 322, 323, 324, 325, 326, 327, 328, 86, 329, 330, 331, 332, 333, 85, 82, 93, 334, 335, 336, 337, 338, 339, 340, 341, 342, 343, 344, 345, 83, 346, 347, 348, 349, 350, 351, 352, 353, 354, 355, 356, 357, 88, 90, 91, 358, 359, 360, 361, 362, 363, 364, 365, 92, 89, 366, 367, 368, 369, 482, 483, 484, 485, 486, 487, 488, 489, 490, 491, 492, 493, 494, 495, 496, 497, 498, 499] rfl (by decide +kernel)
set_option maxRecDepth 20000 in
theorem gL_law_X4_lines : GoodIn wsL_law (wsV RL 57 RX4 yX4_lines wsX4_lines) := goodIn_app (goodIn_of _ (by decide +kernel)) ggL_law_X4_lines
set_option maxRecDepth 20000 in
theorem ggL_law_X3_pages : GoodIn wsL_law wsX3_pages := goodIn_r _ [373, 27, 213, 374, 215, 216, 217, 2, 218, 28, 23, 19, 103, 219, 220, 221, 22, 222, 65, 57, 223, 224, 63, 64, 61, 62, 225, 226, 227, 228, 60, 59, 229, 230, 231, 18, 232, 48, 233, 159, 160, 161, 50, 234, 235, 236, 237, 238, 43, 239, 240, 241, 242, 243, 244, 245, 246, 51, 44, 247, 248, 249, 250, 142, 143, 144, 145, 52, 251, 252, 253, 254, 255, 256, 33, 34, 35, 257, 258, 259, 260, 261, 262, 263, 264, 265, 266, 267, 268, 269, 270, 271, 272, 273, 274, 275, 276, 277, 278, 279, 280, 281, 282, 283, 284, 285, 26, 286, 70, 71, 72, 73, 77, 76, 74, 75, 287, 288, 289, 290, 291, 292, 293, 294, 295, 296, 297, 298, 299, 300, 301, 302, 303, 478, 479, 480, 481, 515, 516, 517, 518, 519, 520, 521, 522, 500, 501, 502, 503, 504, 505, 506, 507, 508, 509, 510, 511, 512, 513, 514] rfl (by decide +kernel)
set_option maxRecDepth 20000 in
theorem gL_law_X3_pages : GoodIn wsL_law (wsV RL 58 RX3 yX3_pages wsX3_pages) := goodIn_app (goodIn_of _ (by decide +kernel)) ggL_law_X3_pages
set_option maxRecDepth 20000 in
theorem ggL_law_X4_pages : GoodIn wsL_law wsX4_pages := goodIn_r _ [378, 321, 309, 310, 311, 5, 312, 313, 314, 315, 316, 317, 318, 119, 190, 118, 94, 87, 319, 320, 308, 322, 323, 324, 325, 326, 327, 328, 86, 329, 330, 331, 332, 333, 85, 82, 93, 334, 335, 336, 337, 338, 339, 340, 341, 342, 343, 344, 345, 83, 346, 347, 348, 349, 350, 351, 352, 353, 354, 355, 356, 357, 88, 90, 91, 358, 359, 360, 361, 362, 363, 364, 365, 92, 89, 366, 367, 368, 369, 482, 483, 484, 485, 486, 487, 488, 489, 490, 491, 492, 493, 494, 495, 496, 497, 498, 499] rfl (by decide +kernel)
set_option maxRecDepth 20000 in
theorem gL_law_X4_pages : GoodIn wsL_law (wsV RL 61 RX4 yX4_pages wsX4_pages) := goodIn_app (goodIn_of _ (by decide +kernel)) ggL_law_X4_pages
set_option maxRecDepth 20000 in
theorem ggL_law_X3_sum : GoodIn wsL_law wsX3_sum := goodIn_r _ [382, 27, 213, 383, 384, 215, 216, 217, 2, 218, 28, 23, 19, 103, 219, 220, 221, 22, 222, 65, 57, 223, 224, 63, 64, 61, 62, 225, 226, 227, 228, 60, 59, 229, 230, 231, 18, 232, 48, 233, 159, 160, 161, 50, 234, 235, 236, 237, 238, 43, 239, 240, 241, 242, 243, 244, 245, 246, 51, 44, 247, 248, 249, 250, 142, 143, 144, 145, 52, 251, 252, 253, 254, 255, 256, 33, 34, 35, 257, 258, 259, 260, 261, 262, 263, 264, 265, 266, 267, 268, 269, 270, 271, 272, 273, 274, 275, 276, 277, 278, 279, 280, 281, 282, 283, 284, 285, 26, 286, 70, 71, 72, 73, 77, 76, 74, 75, 287, 288, 289, 290, 291, 292, 293, 294, 295, 296, 297, 298, 299, 300, 301, 302, 303, 478, 479, 480, 481, 515, 516, 517, 518, 519, 520, 521, 522, 500, 501, 502, 503, 504, 505, 506, 507, 508, 509, 510, 511, 512, 513, 514] rfl (by decide +kernel)
set_option maxRecDepth 20000 in
theorem gL_law_X3_sum : GoodIn wsL_law (wsV RL 62 RX3 yX3_sum wsX3_sum) := goodIn_app (goodIn_of _ (by decide +kernel)) ggL_law_X3_sum
set_option maxRecDepth 20000 in
theorem ggL_law_X4_sum : GoodIn wsL_law wsX4_sum := goodIn_r _ [388, 313, 319, 389, 309, 310, 311, 5, 312, 314, 315, 316, 317, 318, 119, 190, 118, 94, 87, 320, 308, 321, 322, 323, 324, 325, 326, 327, 328, 86, 329, 330, 331, 332, 333, 85, 82, 93, 334, 335, 336, 337, 338, 339, 340, 341, 342, 343, 344, 345, 83, 346, 347, 348, 349, 350, 351, 352, 353, 354, 355, 356, 357, 88, 90, 91, 358, 359, 360, 361, 362, 363, 364, 365, 92, 89, 366, 367, 368, 369, 482, 483, 484, 485, 486, 487, 488, 489, 490, 491, 492, 493, 494, 495, 496, 497, 498, 499] rfl (by decide +kernel)
set_option maxRecDepth 20000 in
theorem gL_law_X4_sum : GoodIn wsL_law (wsV RL 66 RX4 yX4_sum wsX4_sum) := goodIn_app (goodIn_of _ (by decide +kernel)) ggL_law_X4_sum
set_option maxRecDepth 20000 in
theorem ggL_law_X3_line : GoodIn wsL_law wsX3_line := goodIn_r _ [393, 27, 213, 214, 394, 395, 174, 19, 215, 216, 217, 2, 218, 28, 23, 103, 219, 220, 221, 22, 222, 65, 57, 223, 224, 63, 64, 61, 62, 225, 226, 227, 228, 60, 59, 229, 230, 231, 18, 232, 48, 233, 159, 160, 161, 50, 234, 235, 236, 237, 238, 43, 239, 240, 241, 242, 243, 244, 245, 246, 51, 44, 247, 248, 249, 250, 142, 143, 144, 145, 52, 251, 252, 253, 254, 255, 256, 33, 34, 35, 257, 258, 259, 260, 261, 262, 263, 264, 265, 266, 267, 268, 269, 270, 271, 272, 273, 274, 275, 276, 277, 278, 279, 280, 281, 282, 283, 284, 285, 26, 286, 70, 71, 72, 73, 77, 76, 74, 75, 287, 288, 289, 290, 291, 292, 293, 294, 295, 296, 297, 298, 299, 300, 301, 302, 303, 107, 108, 109, 396, 397, 398, 399, 400, 478, 479, 480, 481, 515, 516, 517, 518, 519, 520, 521, 522, 500, 501, 502, 503, 504, 505, 506, 507, 508, 509, 510, 511, 512, 513, 514] rfl (by decide +kernel)
set_option maxRecDepth 20000 in
theorem gL_law_X3_line : GoodIn wsL_law (wsV RL 67 RX3 yX3_line wsX3_line) := goodIn_app (goodIn_of _ (by decide +kernel)) ggL_law_X3_line
set_option maxRecDepth 20000 in
theorem ggL_law_X4_line : GoodIn wsL_law wsX4_line := goodIn_r _ [404, 308, 88, 180, 309, 310, 311, 5, 312, 313, 314, 315, 316, 317, 318, 119, 190, 118, 94, 87, 319, 320, 321, 322, 323, 324, 325, 326, 327, 328, 86, 329, 330, 331, 332, 333, 85, 82, 93, 334, 335, 336, 337, 338, 339, 340, 341, 342, 343, 344, 345, 83, 346, 347, 348, 349, 350, 351, 352, 353, 354, 355, 356, 357, 90, 91, 358, 359, 360, 361, 362, 363, 364, 365, 92, 89, 366, 367, 368, 369, 123, 124, 125, 405, 406, 407, 408, 482, 483, 484, 485, 486, 487, 488, 489, 490, 491, 492, 493, 494, 495, 496, 497, 498, 499] rfl (by decide +kernel)
set_option maxRecDepth 20000 in
theorem gL_law_X4_line : GoodIn wsL_law (wsV RL 70 RX4 yX4_line wsX4_line) := goodIn_app (goodIn_of _ (by decide +kernel)) ggL_law_X4_line
set_option maxRecDepth 20000 in
theorem ggL_law_X3_page : GoodIn wsL_law wsX3_page := goodIn_r _ [412, 27, 213, 374, 413, 215, 216, 217, 2, 218, 28, 23, 19, 103, 219, 220, 221, 22, 222, 65, 57, 223, 224, 63, 64, 61, 62, 225, 226, 227, 228, 60, 59, 229, 230, 231, 18, 232, 48, 233, 159, 160, 161, 50, 234, 235, 236, 237, 238, 43, 239, 240, 241, 242, 243, 244, 245, 246, 51, 44, 247, 248, 249, 250, 142, 143, 144, 145, 52, 251, 252, 253, 254, 255, 256, 33, 34, 35, 257, 258, 259, 260, 261, 262, 263, 264, 265, 266, 267, 268, 269, 270, 271, 272, 273, 274, 275, 276, 277, 278, 279, 280, 281, 282, 283, 284, 285, 26, 286, 70, 71, 72, 73, 77, 76, 74, 75, 287, 288, 289, 290, 291, 292, 293, 294, 295, 296, 297, 298, 299, 300, 301, 302, 303, 107, 108, 109, 414, 415, 416, 417, 418, 419, 420, 421, 175, 396, 397, 398, 399, 422, 478, 479, 480, 481, 515, 516, 517, 518, 519, 520, 521, 522, 500, 501, 502, 503, 504, 505, 506, 507, 508, 509, 510, 511, 512, 513, 514] rfl (by decide +kernel)
set_option maxRecDepth 20000 in
theorem gL_law_X3_page : GoodIn wsL_law (wsV RL 71 RX3 yX3_page wsX3_page) := goodIn_app (goodIn_of _ (by decide +kernel)) ggL_law_X3_page
set_option maxRecDepth 20000 in
theorem ggL_law_X4_page : GoodIn wsL_law wsX4_page := goodIn_r _ [426, 321, 89, 309, 310, 311, 5, 312, 313, 314, 315, 316, 317, 318, 119, 190, 118, 94, 87, 319, 320, 308, 322, 323, 324, 325, 326, 327, 328, 86, 329, 330, 331, 332, 333, 85, 82, 93, 334, 335, 336, 337, 338, 339, 340, 341, 342, 343, 344, 345, 83, 346, 347, 348, 349, 350, 351, 352, 353, 354, 355, 356, 357, 88, 90, 91, 358, 359, 360, 361, 362, 363, 364, 365, 92, 366, 367, 368, 369, 123, 124, 125, 482, 483, 484, 485, 486, 487, 488, 489, 490, 491, 492, 493, 494, 495, 496, 497, 498, 499] rfl (by decide +kernel)
set_option maxRecDepth 20000 in
theorem gL_law_X4_page : GoodIn wsL_law (wsV RL 74 RX4 yX4_page wsX4_page) := goodIn_app (goodIn_of _ (by decide +kernel)) ggL_law_X4_page
set_option maxRecDepth 20000 in
theorem ggL_law_X3_set : GoodIn wsL_law wsX3_set := goodIn_r _ [430, 19, 27, 213, 431, 394, 130, 131, 132, 18, 133, 43, 107, 108, 2, 109, 215, 216, 217, 218, 28, 23, 103, 219, 220, 221, 22, 222, 65, 57, 223, 224, 63, 64, 61, 62, 225, 226, 227, 228, 60, 59, 229, 230, 231, 232, 48, 233, 159, 160, 161, 50, 234, 235, 236, 237, 238, 239, 240, 241, 242, 243, 244, 245, 246, 51, 44, 247, 248, 249, 250, 142, 143, 144, 145, 52, 251, 252, 253, 254, 255, 256, 33, 34, 35, 257, 258, 259, 260, 261, 262, 263, 264, 265, 266, 267, 268, 269, 270, 271, 272, 273, 274, 275, 276, 277, 278, 279, 280, 281, 282, 283, 284, 285, 26, 286, 70, 71, 72, 73, 77, 76, 74, 75, 287, 288, 289, 290, 291, 292, 293, 294, 295, 296, 297, 298, 299, 300, 301, 302, 303, 396, 397, 398, 399, 432, 433, 434, 435, 436, 437, 438, 138, 139, 140, 141, 478, 479, 480, 481, 515, 516, 517, 518, 519, 520, 521, 522, 500, 501, 502, 503, 504, 505, 506, 507, 508, 509, 510, 511, 512, 513, 514] rfl (by decide +kernel)
set_option maxRecDepth 20000 in
theorem gL_law_X3_set : GoodIn wsL_law (wsV RL 75 RX3 yX3_set wsX3_set) := goodIn_app (goodIn_of _ (by decide +kernel)) ggL_law_X3_set
set_option maxRecDepth 20000 in
theorem ggL_law_X4_set : GoodIn wsL_law wsX4_set := goodIn_r _ [442, 88, 150, 151, 152, 5, 153, 118, 123, 124, 125, 309, 310, 311, 312, 313, 314, 315, 316, 317, 318, 119, 190, 94, 87, 319, 320, 308, 321, 322, 323, 324, 325, 326, 327, 328, 86, 329, 330, 331, 332, 333, 85, 82, 93, 334, 335, 336, 337, 338, 339, 340, 341, 342, 343, 344, 345, 83, 346, 347, 348, 349, 350, 351, 352, 353, 354, 355, 356, 357, 90, 91, 358, 359, 360, 361, 362, 363, 364, 365, 92, 89, 366, 367, 368, 369, 443, 444, 445, 446, 447, 448, 449, 450, 482, 483, 484, 485, 486, 487, 488, 489, 490, 491, 492, 493, 494, 495, 496, 497, 498, 499] rfl (by decide +kernel)
set_option maxRecDepth 20000 in
theorem gL_law_X4_set : GoodIn wsL_law (wsV RL 78 RX4 yX4_set wsX4_set) := goodIn_app (goodIn_of _ (by decide +kernel)) ggL_law_X4_set
set_option maxRecDepth 20000 in
theorem ggL_law_X3_ends : GoodIn wsL_law wsX3_ends := goodIn_r _ [454, 19, 27, 213, 431, 130, 131, 132, 18, 133, 43, 215, 216, 217, 2, 218, 28, 23, 103, 219, 220, 221, 22, 222, 65, 57, 223, 224, 63, 64, 61, 62, 225, 226, 227, 228, 60, 59, 229, 230, 231, 232, 48, 233, 159, 160, 161, 50, 234, 235, 236, 237, 238, 239, 240, 241, 242, 243, 244, 245, 246, 51, 44, 247, 248, 249, 250, 142, 143, 144, 145, 52, 251, 252, 253, 254, 255, 256, 33, 34, 35, 257, 258, 259, 260, 261, 262, 263, 264, 265, 266, 267, 268, 269, 270, 271, 272, 273, 274, 275, 276, 277, 278, 279, 280, 281, 282, 283, 284, 285, 26, 286, 70, 71, 72, 73, 77, 76, 74, 75, 287, 288, 289, 290, 291, 292, 293, 294, 295, 296, 297, 298, 299, 300, 301, 302, 303, 396, 397, 398, 399, 478, 479, 480, 481, 515, 516, 517, 518, 519, 520, 521, 522, 500, 501, 502, 503, 504, 505, 506, 507, 508, 509, 510, 511, 512, 513, 514] rfl (by decide +kernel)
set_option maxRecDepth 20000 in
theorem gL_law_X3_ends : GoodIn wsL_law (wsV RL 79 RX3 yX3_ends wsX3_ends) := goodIn_app (goodIn_of _ (by decide +kernel)) ggL_law_X3_ends
set_option maxRecDepth 20000 in
theorem ggL_law_X4_ends : GoodIn wsL_law wsX4_ends := goodIn_r _ [458, 88, 150, 151, 152, 5, 153, 118, 123, 124, 125, 309, 310, 311, 312, 313, 314, 315, 316, 317, 318, 119, 190, 94, 87, 319, 320, 308, 321, 322, 323, 324, 325, 326, 327, 328, 86, 329, 330, 331, 332, 333, 85, 82, 93, 334, 335, 336, 337, 338, 339, 340, 341, 342, 343, 344, 345, 83, 346, 347, 348, 349, 350, 351, 352, 353, 354, 355, 356, 357, 90, 91, 358, 359, 360, 361, 362, 363, 364, 365, 92, 89, 366, 367, 368, 369, 443, 444, 445, 446, 482, 483, 484, 485, 486, 487, 488, 489, 490, 491, 492, 493, 494, 495, 496, 497, 498, 499] rfl (by decide +kernel)
set_option maxRecDepth 20000 in
theorem gL_law_X4_ends : GoodIn wsL_law (wsV RL 83 RX4 yX4_ends wsX4_ends) := goodIn_app (goodIn_of _ (by decide +kernel)) ggL_law_X4_ends
set_option maxRecDepth 20000 in
theorem ggL_law_X3_badness : GoodIn wsL_law wsX3_badness := goodIn_r _ [462, 19, 384, 130, 131, 132, 18, 133, 43, 463, 235, 236, 237, 238, 48, 239, 240, 241, 242, 50, 233, 159, 160, 161, 243, 244, 245, 246, 51, 44, 247, 248, 249, 250, 142, 143, 144, 145, 52, 478, 479, 480, 481, 500, 501, 502, 503, 504, 505, 506, 507] rfl (by decide +kernel)
set_option maxRecDepth 20000 in
theorem gL_law_X3_badness : GoodIn wsL_law (wsV RL 84 RX3 yX3_badness wsX3_badness) := goodIn_app (goodIn_of _ (by decide +kernel)) ggL_law_X3_badness
set_option maxRecDepth 20000 in
theorem ggL_law_X4_badness : GoodIn wsL_law wsX4_badness := goodIn_r _ [467, 389, 150, 151, 152, 5, 153, 118, 123, 124, 125, 330, 331, 332, 333, 85, 82, 93, 334, 335, 336, 337, 338, 339, 340, 341, 86, 342, 343, 344, 345, 83, 346, 347, 348, 349, 482, 483, 484, 485, 486, 487, 488, 489, 490, 491, 492, 493, 494, 495, 496, 497, 498, 499] rfl (by decide +kernel)
set_option maxRecDepth 20000 in
theorem gL_law_X4_badness : GoodIn wsL_law (wsV RL 88 RX4 yX4_badness wsX4_badness) := goodIn_app (goodIn_of _ (by decide +kernel)) ggL_law_X4_badness
set_option maxRecDepth 20000 in
theorem ggL_law_X3_would : GoodIn wsL_law wsX3_would := goodIn_r _ [471, 19, 384, 23, 130, 131, 132, 18, 133, 43, 107, 108, 2, 109, 158, 159, 160, 161, 50, 162, 163, 164, 165, 219, 220, 221, 22, 222, 65, 57, 223, 224, 63, 64, 61, 62, 225, 226, 227, 228, 60, 59, 229, 230, 231, 232, 48, 233, 234, 235, 236, 237, 238, 239, 240, 241, 242, 243, 244, 245, 246, 51, 44, 247, 248, 249, 250, 142, 143, 144, 145, 52, 251, 252, 253, 254, 255, 256, 33, 34, 35, 257, 258, 259, 260, 261, 262, 263, 264, 265, 266, 267, 268, 269, 270, 271, 272, 273, 274, 275, 276, 277, 278, 279, 280, 281, 282, 472, 292, 293, 294, 295, 288, 289, 290, 478, 479, 480, 481, 500, 501, 502, 503, 504, 505, 506, 507, 508, 509, 510, 511, 512, 513, 514] rfl (by decide +kernel)
set_option maxRecDepth 20000 in
theorem gL_law_X3_would : GoodIn wsL_law (wsV RL 89 RX3 yX3_would wsX3_would) := goodIn_app (goodIn_of _ (by decide +kernel)) ggL_law_X3_would
set_option maxRecDepth 20000 in
theorem ggL_law_X4_would : GoodIn wsL_law wsX4_would := goodIn_r _ [476, 389, 85, 119, 150, 151, 152, 5, 153, 118, 123, 124, 125, 477, 386, 387, 388, 313, 319, 309, 310, 311, 312, 314, 315, 316, 317, 318, 190, 94, 87, 320, 308, 321, 322, 323, 324, 325, 326, 327, 328, 86, 329, 330, 331, 332, 333, 82, 93, 334, 335, 336, 337, 338, 339, 340, 341, 342, 343, 344, 345, 83, 346, 347, 348, 349, 350, 351, 352, 353, 354, 355, 356, 357, 88, 90, 91, 358, 359, 360, 361, 362, 363, 364, 365, 92, 89, 366, 367, 368, 369, 482, 483, 484, 485, 486, 487, 488, 489, 490, 491, 492, 493, 494, 495, 496, 497, 498, 499] rfl (by decide +kernel)
set_option maxRecDepth 20000 in
theorem gL_law_X4_would : GoodIn wsL_law (wsV RL 92 RX4 yX4_would wsX4_would) := goodIn_app (goodIn_of _ (by decide +kernel)) ggL_law_X4_would
theorem dL_law_0 : decode cL_law 0 = .ok (.new 7, 3) := by decide +kernel
theorem dL_law_3 : decode cL_law 3 = .ok (.dup, 1) := by decide +kernel
theorem dL_law_4 : decode cL_law 4 = .ok (.aload_n 0, 1) := by decide +kernel
theorem dL_law_5 : decode cL_law 5 = .ok (.iconst 0, 1) := by decide +kernel
theorem dL_law_6 : decode cL_law 6 = .ok (.invokestatic 9, 3) := by decide +kernel
theorem dL_law_9 : decode cL_law 9 = .ok (.aload_n 0, 1) := by decide +kernel
theorem dL_law_10 : decode cL_law 10 = .ok (.iconst 1, 1) := by decide +kernel
theorem dL_law_11 : decode cL_law 11 = .ok (.invokestatic 9, 3) := by decide +kernel
theorem dL_law_14 : decode cL_law 14 = .ok (.invokespecial 15, 3) := by decide +kernel
theorem dL_law_17 : decode cL_law 17 = .ok (.astore_n 1, 1) := by decide +kernel
theorem dL_law_18 : decode cL_law 18 = .ok (.new 18, 3) := by decide +kernel
theorem dL_law_21 : decode cL_law 21 = .ok (.dup, 1) := by decide +kernel
theorem dL_law_22 : decode cL_law 22 = .ok (.aload_n 0, 1) := by decide +kernel
theorem dL_law_23 : decode cL_law 23 = .ok (.iconst 0, 1) := by decide +kernel
theorem dL_law_24 : decode cL_law 24 = .ok (.invokestatic 9, 3) := by decide +kernel
theorem dL_law_27 : decode cL_law 27 = .ok (.aload_n 0, 1) := by decide +kernel
theorem dL_law_28 : decode cL_law 28 = .ok (.iconst 1, 1) := by decide +kernel
theorem dL_law_29 : decode cL_law 29 = .ok (.invokestatic 9, 3) := by decide +kernel
theorem dL_law_32 : decode cL_law 32 = .ok (.invokespecial 20, 3) := by decide +kernel
theorem dL_law_35 : decode cL_law 35 = .ok (.astore_n 2, 1) := by decide +kernel
theorem dL_law_36 : decode cL_law 36 = .ok (.iconst 2, 1) := by decide +kernel
theorem dL_law_37 : decode cL_law 37 = .ok (.istore_n 3, 1) := by decide +kernel
theorem dL_law_38 : decode cL_law 38 = .ok (.iload_n 3, 1) := by decide +kernel
theorem dL_law_39 : decode cL_law 39 = .ok (.aload_n 0, 1) := by decide +kernel
theorem dL_law_40 : decode cL_law 40 = .ok (.arraylength, 1) := by decide +kernel
theorem dL_law_41 : decode cL_law 41 = .ok (.iconst 4, 1) := by decide +kernel
theorem dL_law_42 : decode cL_law 42 = .ok (.isub, 1) := by decide +kernel
theorem dL_law_43 : decode cL_law 43 = .ok (.if_icmp .gt 562, 3) := by decide +kernel
theorem dL_law_46 : decode cL_law 46 = .ok (.aload_n 0, 1) := by decide +kernel
theorem dL_law_47 : decode cL_law 47 = .ok (.iload_n 3, 1) := by decide +kernel
theorem dL_law_48 : decode cL_law 48 = .ok (.iaload, 1) := by decide +kernel
theorem dL_law_49 : decode cL_law 49 = .ok (.bipush 15, 2) := by decide +kernel
theorem dL_law_51 : decode cL_law 51 = .ok (.iand, 1) := by decide +kernel
theorem dL_law_52 : decode cL_law 52 = .ok (.tableswitch 547 0 15 #[80, 113, 156, 215, 248, 271, 304, 317, 330, 343, 357, 390, 423, 456, 479, 513], 80) := by decide +kernel
theorem dL_law_132 : decode cL_law 132 = .ok (.aload_n 1, 1) := by decide +kernel
theorem dL_law_133 : decode cL_law 133 = .ok (.aload_n 0, 1) := by decide +kernel
theorem dL_law_134 : decode cL_law 134 = .ok (.iload_n 3, 1) := by decide +kernel
theorem dL_law_135 : decode cL_law 135 = .ok (.iconst 1, 1) := by decide +kernel
