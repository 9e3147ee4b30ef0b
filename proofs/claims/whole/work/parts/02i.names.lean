theorem dX4_pickPages_0 : decode cX4_pickPages 0 = .ok (.aload_n 0, 1) := by decide +kernel
theorem dX4_pickPages_1 : decode cX4_pickPages 1 = .ok (.getfield 39, 3) := by decide +kernel
theorem dX4_pickPages_4 : decode cX4_pickPages 4 = .ok (.aload_n 0, 1) := by decide +kernel
theorem dX4_pickPages_5 : decode cX4_pickPages 5 = .ok (.getfield 122, 3) := by decide +kernel
theorem dX4_pickPages_8 : decode cX4_pickPages 8 = .ok (.lconst 0, 1) := by decide +kernel
theorem dX4_pickPages_9 : decode cX4_pickPages 9 = .ok (.lastore, 1) := by decide +kernel
theorem dX4_pickPages_10 : decode cX4_pickPages 10 = .ok (.aload_n 0, 1) := by decide +kernel
theorem dX4_pickPages_11 : decode cX4_pickPages 11 = .ok (.getfield 122, 3) := by decide +kernel
theorem dX4_pickPages_14 : decode cX4_pickPages 14 = .ok (.iconst 1, 1) := by decide +kernel
theorem dX4_pickPages_15 : decode cX4_pickPages 15 = .ok (.isub, 1) := by decide +kernel
theorem dX4_pickPages_16 : decode cX4_pickPages 16 = .ok (.istore_n 1, 1) := by decide +kernel
theorem dX4_pickPages_17 : decode cX4_pickPages 17 = .ok (.iload_n 1, 1) := by decide +kernel
theorem dX4_pickPages_18 : decode cX4_pickPages 18 = .ok (.ifCond .lt 95, 3) := by decide +kernel
theorem dX4_pickPages_21 : decode cX4_pickPages 21 = .ok (.aload_n 0, 1) := by decide +kernel
theorem dX4_pickPages_22 : decode cX4_pickPages 22 = .ok (.getfield 39, 3) := by decide +kernel
theorem dX4_pickPages_25 : decode cX4_pickPages 25 = .ok (.iload_n 1, 1) := by decide +kernel
theorem dX4_pickPages_26 : decode cX4_pickPages 26 = .ok (.ldc2_w 91, 3) := by decide +kernel
theorem dX4_pickPages_29 : decode cX4_pickPages 29 = .ok (.lastore, 1) := by decide +kernel
theorem dX4_pickPages_30 : decode cX4_pickPages 30 = .ok (.iload_n 1, 1) := by decide +kernel
theorem dX4_pickPages_31 : decode cX4_pickPages 31 = .ok (.iconst 1, 1) := by decide +kernel
theorem dX4_pickPages_32 : decode cX4_pickPages 32 = .ok (.iadd, 1) := by decide +kernel
theorem dX4_pickPages_33 : decode cX4_pickPages 33 = .ok (.istore_n 2, 1) := by decide +kernel
theorem dX4_pickPages_34 : decode cX4_pickPages 34 = .ok (.iload_n 2, 1) := by decide +kernel
theorem dX4_pickPages_35 : decode cX4_pickPages 35 = .ok (.aload_n 0, 1) := by decide +kernel
theorem dX4_pickPages_36 : decode cX4_pickPages 36 = .ok (.getfield 122, 3) := by decide +kernel
theorem dX4_pickPages_39 : decode cX4_pickPages 39 = .ok (.if_icmp .gt 68, 3) := by decide +kernel
theorem dX4_pickPages_42 : decode cX4_pickPages 42 = .ok (.iload_n 2, 1) := by decide +kernel
theorem dX4_pickPages_43 : decode cX4_pickPages 43 = .ok (.iload_n 1, 1) := by decide +kernel
theorem dX4_pickPages_44 : decode cX4_pickPages 44 = .ok (.isub, 1) := by decide +kernel
theorem dX4_pickPages_45 : decode cX4_pickPages 45 = .ok (.aload_n 0, 1) := by decide +kernel
theorem dX4_pickPages_46 : decode cX4_pickPages 46 = .ok (.getfield 46, 3) := by decide +kernel
theorem dX4_pickPages_49 : decode cX4_pickPages 49 = .ok (.if_icmp .gt 58, 3) := by decide +kernel
theorem dX4_pickPages_52 : decode cX4_pickPages 52 = .ok (.ldc2_w 93, 3) := by decide +kernel
theorem dX4_pickPages_55 : decode cX4_pickPages 55 = .ok (.aload_n 0, 1) := by decide +kernel
theorem dX4_pickPages_56 : decode cX4_pickPages 56 = .ok (.iload_n 1, 1) := by decide +kernel
theorem dX4_pickPages_57 : decode cX4_pickPages 57 = .ok (.iload_n 2, 1) := by decide +kernel
theorem dX4_pickPages_58 : decode cX4_pickPages 58 = .ok (.invokevirtual 137, 3) := by decide +kernel
theorem dX4_pickPages_61 : decode cX4_pickPages 61 = .ok (.lmul, 1) := by decide +kernel
theorem dX4_pickPages_62 : decode cX4_pickPages 62 = .ok (.ldc2_w 110, 3) := by decide +kernel
theorem dX4_pickPages_65 : decode cX4_pickPages 65 = .ok (.ladd, 1) := by decide +kernel
theorem dX4_pickPages_66 : decode cX4_pickPages 66 = .ok (.aload_n 0, 1) := by decide +kernel
theorem dX4_pickPages_67 : decode cX4_pickPages 67 = .ok (.getfield 39, 3) := by decide +kernel
theorem dX4_pickPages_70 : decode cX4_pickPages 70 = .ok (.iload_n 2, 1) := by decide +kernel
theorem dX4_pickPages_71 : decode cX4_pickPages 71 = .ok (.laload, 1) := by decide +kernel
theorem dX4_pickPages_72 : decode cX4_pickPages 72 = .ok (.ladd, 1) := by decide +kernel
theorem dX4_pickPages_73 : decode cX4_pickPages 73 = .ok (.lstore_n 3, 1) := by decide +kernel
theorem dX4_pickPages_74 : decode cX4_pickPages 74 = .ok (.aload_n 0, 1) := by decide +kernel
theorem dX4_pickPages_75 : decode cX4_pickPages 75 = .ok (.getfield 39, 3) := by decide +kernel
theorem dX4_pickPages_78 : decode cX4_pickPages 78 = .ok (.iload_n 1, 1) := by decide +kernel
theorem dX4_pickPages_79 : decode cX4_pickPages 79 = .ok (.lload_n 3, 1) := by decide +kernel
theorem dX4_pickPages_80 : decode cX4_pickPages 80 = .ok (.aload_n 0, 1) := by decide +kernel
theorem dX4_pickPages_81 : decode cX4_pickPages 81 = .ok (.getfield 39, 3) := by decide +kernel
theorem dX4_pickPages_84 : decode cX4_pickPages 84 = .ok (.iload_n 1, 1) := by decide +kernel
theorem dX4_pickPages_85 : decode cX4_pickPages 85 = .ok (.laload, 1) := by decide +kernel
theorem dX4_pickPages_86 : decode cX4_pickPages 86 = .ok (.lcmp, 1) := by decide +kernel
theorem dX4_pickPages_87 : decode cX4_pickPages 87 = .ok (.ifCond .ge 7, 3) := by decide +kernel
theorem dX4_pickPages_90 : decode cX4_pickPages 90 = .ok (.lload_n 3, 1) := by decide +kernel
theorem dX4_pickPages_91 : decode cX4_pickPages 91 = .ok (.goto 9, 3) := by decide +kernel
theorem dX4_pickPages_94 : decode cX4_pickPages 94 = .ok (.aload_n 0, 1) := by decide +kernel
theorem dX4_pickPages_95 : decode cX4_pickPages 95 = .ok (.getfield 39, 3) := by decide +kernel
theorem dX4_pickPages_98 : decode cX4_pickPages 98 = .ok (.iload_n 1, 1) := by decide +kernel
theorem dX4_pickPages_99 : decode cX4_pickPages 99 = .ok (.laload, 1) := by decide +kernel
theorem dX4_pickPages_100 : decode cX4_pickPages 100 = .ok (.lastore, 1) := by decide +kernel
theorem dX4_pickPages_101 : decode cX4_pickPages 101 = .ok (.iinc 2 1, 3) := by decide +kernel
theorem dX4_pickPages_104 : decode cX4_pickPages 104 = .ok (.goto (-70), 3) := by decide +kernel
theorem dX4_pickPages_107 : decode cX4_pickPages 107 = .ok (.iinc 1 (-1), 3) := by decide +kernel
theorem dX4_pickPages_110 : decode cX4_pickPages 110 = .ok (.goto (-93), 3) := by decide +kernel
theorem dX4_pickPages_113 : decode cX4_pickPages 113 = .ok (.iconst 0, 1) := by decide +kernel
theorem dX4_pickPages_114 : decode cX4_pickPages 114 = .ok (.istore_n 1, 1) := by decide +kernel
theorem dX4_pickPages_115 : decode cX4_pickPages 115 = .ok (.iload_n 1, 1) := by decide +kernel
theorem dX4_pickPages_116 : decode cX4_pickPages 116 = .ok (.aload_n 0, 1) := by decide +kernel
theorem dX4_pickPages_117 : decode cX4_pickPages 117 = .ok (.getfield 122, 3) := by decide +kernel
theorem dX4_pickPages_120 : decode cX4_pickPages 120 = .ok (.if_icmp .ge 92, 3) := by decide +kernel
theorem dX4_pickPages_123 : decode cX4_pickPages 123 = .ok (.iload_n 1, 1) := by decide +kernel
theorem dX4_pickPages_124 : decode cX4_pickPages 124 = .ok (.aload_n 0, 1) := by decide +kernel
theorem dX4_pickPages_125 : decode cX4_pickPages 125 = .ok (.getfield 46, 3) := by decide +kernel
theorem dX4_pickPages_128 : decode cX4_pickPages 128 = .ok (.iadd, 1) := by decide +kernel
theorem dX4_pickPages_129 : decode cX4_pickPages 129 = .ok (.aload_n 0, 1) := by decide +kernel
theorem dX4_pickPages_130 : decode cX4_pickPages 130 = .ok (.getfield 122, 3) := by decide +kernel
theorem dX4_pickPages_133 : decode cX4_pickPages 133 = .ok (.if_icmp .ge 12, 3) := by decide +kernel
theorem dX4_pickPages_136 : decode cX4_pickPages 136 = .ok (.iload_n 1, 1) := by decide +kernel
theorem dX4_pickPages_137 : decode cX4_pickPages 137 = .ok (.aload_n 0, 1) := by decide +kernel
theorem dX4_pickPages_138 : decode cX4_pickPages 138 = .ok (.getfield 46, 3) := by decide +kernel
theorem dX4_pickPages_141 : decode cX4_pickPages 141 = .ok (.iadd, 1) := by decide +kernel
theorem dX4_pickPages_142 : decode cX4_pickPages 142 = .ok (.goto 7, 3) := by decide +kernel
theorem dX4_pickPages_145 : decode cX4_pickPages 145 = .ok (.aload_n 0, 1) := by decide +kernel
theorem dX4_pickPages_146 : decode cX4_pickPages 146 = .ok (.getfield 122, 3) := by decide +kernel
theorem dX4_pickPages_149 : decode cX4_pickPages 149 = .ok (.istore_n 2, 1) := by decide +kernel
theorem dX4_pickPages_150 : decode cX4_pickPages 150 = .ok (.ldc2_w 93, 3) := by decide +kernel
theorem dX4_pickPages_153 : decode cX4_pickPages 153 = .ok (.aload_n 0, 1) := by decide +kernel
theorem dX4_pickPages_154 : decode cX4_pickPages 154 = .ok (.iload_n 1, 1) := by decide +kernel
theorem dX4_pickPages_155 : decode cX4_pickPages 155 = .ok (.iload_n 2, 1) := by decide +kernel
theorem dX4_pickPages_156 : decode cX4_pickPages 156 = .ok (.invokevirtual 137, 3) := by decide +kernel
theorem dX4_pickPages_159 : decode cX4_pickPages 159 = .ok (.lmul, 1) := by decide +kernel
theorem dX4_pickPages_160 : decode cX4_pickPages 160 = .ok (.ldc2_w 110, 3) := by decide +kernel
theorem dX4_pickPages_163 : decode cX4_pickPages 163 = .ok (.ladd, 1) := by decide +kernel
theorem dX4_pickPages_164 : decode cX4_pickPages 164 = .ok (.aload_n 0, 1) := by decide +kernel
theorem dX4_pickPages_165 : decode cX4_pickPages 165 = .ok (.getfield 39, 3) := by decide +kernel
theorem dX4_pickPages_168 : decode cX4_pickPages 168 = .ok (.iload_n 2, 1) := by decide +kernel
theorem dX4_pickPages_169 : decode cX4_pickPages 169 = .ok (.laload, 1) := by decide +kernel
theorem dX4_pickPages_170 : decode cX4_pickPages 170 = .ok (.ladd, 1) := by decide +kernel
theorem dX4_pickPages_171 : decode cX4_pickPages 171 = .ok (.aload_n 0, 1) := by decide +kernel
theorem dX4_pickPages_172 : decode cX4_pickPages 172 = .ok (.getfield 39, 3) := by decide +kernel
theorem dX4_pickPages_175 : decode cX4_pickPages 175 = .ok (.iload_n 1, 1) := by decide +kernel
theorem dX4_pickPages_176 : decode cX4_pickPages 176 = .ok (.laload, 1) := by decide +kernel
theorem dX4_pickPages_177 : decode cX4_pickPages 177 = .ok (.lcmp, 1) := by decide +kernel
theorem dX4_pickPages_178 : decode cX4_pickPages 178 = .ok (.ifCond .eq 9, 3) := by decide +kernel
theorem dX4_pickPages_181 : decode cX4_pickPages 181 = .ok (.iinc 2 (-1), 3) := by decide +kernel
theorem dX4_pickPages_184 : decode cX4_pickPages 184 = .ok (.goto (-34), 3) := by decide +kernel
theorem dX4_pickPages_187 : decode cX4_pickPages 187 = .ok (.aload_n 0, 1) := by decide +kernel
theorem dX4_pickPages_188 : decode cX4_pickPages 188 = .ok (.getfield 30, 3) := by decide +kernel
theorem dX4_pickPages_191 : decode cX4_pickPages 191 = .ok (.aload_n 0, 1) := by decide +kernel
theorem dX4_pickPages_192 : decode cX4_pickPages 192 = .ok (.getfield 125, 3) := by decide +kernel
theorem dX4_pickPages_195 : decode cX4_pickPages 195 = .ok (.iload_n 1, 1) := by decide +kernel
theorem dX4_pickPages_196 : decode cX4_pickPages 196 = .ok (.iastore, 1) := by decide +kernel
theorem dX4_pickPages_197 : decode cX4_pickPages 197 = .ok (.aload_n 0, 1) := by decide +kernel
theorem dX4_pickPages_198 : decode cX4_pickPages 198 = .ok (.dup, 1) := by decide +kernel
theorem dX4_pickPages_199 : decode cX4_pickPages 199 = .ok (.getfield 125, 3) := by decide +kernel
theorem dX4_pickPages_202 : decode cX4_pickPages 202 = .ok (.iconst 1, 1) := by decide +kernel
theorem dX4_pickPages_203 : decode cX4_pickPages 203 = .ok (.iadd, 1) := by decide +kernel
theorem dX4_pickPages_204 : decode cX4_pickPages 204 = .ok (.putfield 125, 3) := by decide +kernel
theorem dX4_pickPages_207 : decode cX4_pickPages 207 = .ok (.iload_n 2, 1) := by decide +kernel
theorem dX4_pickPages_208 : decode cX4_pickPages 208 = .ok (.istore_n 1, 1) := by decide +kernel
theorem dX4_pickPages_209 : decode cX4_pickPages 209 = .ok (.goto (-94), 3) := by decide +kernel
theorem dX4_pickPages_212 : decode cX4_pickPages 212 = .ok (.aload_n 0, 1) := by decide +kernel
theorem dX4_pickPages_213 : decode cX4_pickPages 213 = .ok (.getfield 30, 3) := by decide +kernel
theorem dX4_pickPages_216 : decode cX4_pickPages 216 = .ok (.aload_n 0, 1) := by decide +kernel
theorem dX4_pickPages_217 : decode cX4_pickPages 217 = .ok (.getfield 125, 3) := by decide +kernel
theorem dX4_pickPages_220 : decode cX4_pickPages 220 = .ok (.aload_n 0, 1) := by decide +kernel
theorem dX4_pickPages_221 : decode cX4_pickPages 221 = .ok (.getfield 122, 3) := by decide +kernel
theorem dX4_pickPages_224 : decode cX4_pickPages 224 = .ok (.iastore, 1) := by decide +kernel
theorem dX4_pickPages_225 : decode cX4_pickPages 225 = .ok (.return_, 1) := by decide +kernel
set_option maxRecDepth 20000 in
theorem ggX4_isThere_X4_find : GoodIn wsX4_isThere wsX4_find := goodIn_r _ [7, 8, 9, 10, 11, 12, 2, 1, 13, 14, 15, 16, 17, 18, 6, 19, 20, 21, 22, 23, 24, 25, 26, 27, 28, 29, 30, 31, 32, 33, 34, 35, 36, 37, 38, 39, 40, 41, 42, 43, 44, 45, 46, 47, 48, 49, 50, 51, 52, 53, 54, 55, 56, 57, 58, 59, 60, 61, 62, 63, 64, 65, 66, 67, 68, 69, 70, 71, 72, 73, 74, 75, 76, 77, 78, 79, 80, 81, 82, 83, 84, 85, 86, 87, 88, 89, 90, 91, 92] rfl (by decide +kernel)
set_option maxRecDepth 20000 in
theorem gX4_isThere_X4_find : GoodIn wsX4_isThere (wsV RX4 140 RX4 yX4_find wsX4_find) := goodIn_app (goodIn_of _ (by decide +kernel)) ggX4_isThere_X4_find
theorem dX4_isThere_0 : decode cX4_isThere 0 = .ok (.aload_n 0, 1) := by decide +kernel
theorem dX4_isThere_1 : decode cX4_isThere 1 = .ok (.invokevirtual 140, 3) := by decide +kernel
theorem dX4_isThere_4 : decode cX4_isThere 4 = .ok (.aload_n 0, 1) := by decide +kernel
theorem dX4_isThere_5 : decode cX4_isThere 5 = .ok (.getfield 116, 3) := by decide +kernel
theorem dX4_isThere_8 : decode cX4_isThere 8 = .ok (.ldc2_w 91, 3) := by decide +kernel
theorem dX4_isThere_11 : decode cX4_isThere 11 = .ok (.lcmp, 1) := by decide +kernel
theorem dX4_isThere_12 : decode cX4_isThere 12 = .ok (.ifCond .eq 7, 3) := by decide +kernel
theorem dX4_isThere_15 : decode cX4_isThere 15 = .ok (.iconst 1, 1) := by decide +kernel
theorem dX4_isThere_16 : decode cX4_isThere 16 = .ok (.goto 4, 3) := by decide +kernel
theorem dX4_isThere_19 : decode cX4_isThere 19 = .ok (.iconst 0, 1) := by decide +kernel
theorem dX4_isThere_20 : decode cX4_isThere 20 = .ok (.ireturn, 1) := by decide +kernel
set_option maxRecDepth 20000 in
theorem ggX4_lines_X4_isThere : GoodIn wsX4_lines wsX4_isThere := goodIn_r _ [6, 7, 8, 9, 10, 11, 5, 12, 13, 14, 15, 16, 17, 18, 19, 1, 20, 21, 22, 23, 24, 25, 26, 27, 28, 29, 30, 31, 32, 33, 34, 35, 36, 37, 38, 39, 40, 41, 42, 43, 44, 45, 46, 47, 48, 49, 50, 51, 52, 53, 54, 55, 56, 57, 58, 59, 60, 61, 62, 63, 64, 65, 66, 67, 68, 69, 70, 71, 72, 73, 74, 75, 76, 77, 78, 79, 80, 81, 82, 83, 84, 85, 86, 87, 88, 89, 90, 91, 92, 93, 94, 95, 96] rfl (by decide +kernel)
set_option maxRecDepth 20000 in
theorem gX4_lines_X4_isThere : GoodIn wsX4_lines (wsV RX4 143 RX4 yX4_isThere wsX4_isThere) := goodIn_app (goodIn_of _ (by decide +kernel)) ggX4_lines_X4_isThere
theorem dX4_lines_0 : decode cX4_lines 0 = .ok (.aload_n 0, 1) := by decide +kernel
theorem dX4_lines_1 : decode cX4_lines 1 = .ok (.invokevirtual 143, 3) := by decide +kernel
theorem dX4_lines_4 : decode cX4_lines 4 = .ok (.ifCond .eq 10, 3) := by decide +kernel
theorem dX4_lines_7 : decode cX4_lines 7 = .ok (.aload_n 0, 1) := by decide +kernel
theorem dX4_lines_8 : decode cX4_lines 8 = .ok (.getfield 122, 3) := by decide +kernel
theorem dX4_lines_11 : decode cX4_lines 11 = .ok (.goto 5, 3) := by decide +kernel
theorem dX4_lines_14 : decode cX4_lines 14 = .ok (.bipush (-3), 2) := by decide +kernel
theorem dX4_lines_16 : decode cX4_lines 16 = .ok (.ireturn, 1) := by decide +kernel
set_option maxRecDepth 20000 in
theorem ggX4_pages_X4_isThere : GoodIn wsX4_pages wsX4_isThere := goodIn_r _ [6, 7, 8, 9, 10, 11, 5, 12, 13, 14, 15, 16, 17, 18, 19, 20, 1, 21, 22, 23, 24, 25, 26, 27, 28, 29, 30, 31, 32, 33, 34, 35, 36, 37, 38, 39, 40, 41, 42, 43, 44, 45, 46, 47, 48, 49, 50, 51, 52, 53, 54, 55, 56, 57, 58, 59, 60, 61, 62, 63, 64, 65, 66, 67, 68, 69, 70, 71, 72, 73, 74, 75, 76, 77, 78, 79, 80, 81, 82, 83, 84, 85, 86, 87, 88, 89, 90, 91, 92, 93, 94, 95, 96] rfl (by decide +kernel)
set_option maxRecDepth 20000 in
theorem gX4_pages_X4_isThere : GoodIn wsX4_pages (wsV RX4 143 RX4 yX4_isThere wsX4_isThere) := goodIn_app (goodIn_of _ (by decide +kernel)) ggX4_pages_X4_isThere
theorem dX4_pages_0 : decode cX4_pages 0 = .ok (.aload_n 0, 1) := by decide +kernel
theorem dX4_pages_1 : decode cX4_pages 1 = .ok (.invokevirtual 143, 3) := by decide +kernel
theorem dX4_pages_4 : decode cX4_pages 4 = .ok (.ifCond .eq 10, 3) := by decide +kernel
theorem dX4_pages_7 : decode cX4_pages 7 = .ok (.aload_n 0, 1) := by decide +kernel
theorem dX4_pages_8 : decode cX4_pages 8 = .ok (.getfield 125, 3) := by decide +kernel
theorem dX4_pages_11 : decode cX4_pages 11 = .ok (.goto 5, 3) := by decide +kernel
theorem dX4_pages_14 : decode cX4_pages 14 = .ok (.bipush (-3), 2) := by decide +kernel
theorem dX4_pages_16 : decode cX4_pages 16 = .ok (.ireturn, 1) := by decide +kernel
set_option maxRecDepth 20000 in
theorem ggX4_sum_X4_isThere : GoodIn wsX4_sum wsX4_isThere := goodIn_r _ [8, 1, 9, 10, 11, 12, 7, 13, 14, 15, 16, 17, 18, 2, 19, 20, 21, 22, 23, 24, 25, 26, 27, 28, 29, 30, 31, 32, 33, 34, 35, 36, 37, 38, 39, 40, 41, 42, 43, 44, 45, 46, 47, 48, 49, 50, 51, 52, 53, 54, 55, 56, 57, 58, 59, 60, 61, 62, 63, 64, 65, 66, 67, 68, 69, 70, 71, 72, 73, 74, 75, 76, 77, 78, 79, 80, 81, 82, 83, 84, 85, 86, 87, 88, 89, 90, 91, 92, 93, 94, 95, 96, 97] rfl (by decide +kernel)
set_option maxRecDepth 20000 in
theorem gX4_sum_X4_isThere : GoodIn wsX4_sum (wsV RX4 143 RX4 yX4_isThere wsX4_isThere) := goodIn_app (goodIn_of _ (by decide +kernel)) ggX4_sum_X4_isThere
theorem dX4_sum_0 : decode cX4_sum 0 = .ok (.aload_n 0, 1) := by decide +kernel
theorem dX4_sum_1 : decode cX4_sum 1 = .ok (.invokevirtual 143, 3) := by decide +kernel
theorem dX4_sum_4 : decode cX4_sum 4 = .ok (.ifCond .eq 14, 3) := by decide +kernel
theorem dX4_sum_7 : decode cX4_sum 7 = .ok (.aload_n 0, 1) := by decide +kernel
theorem dX4_sum_8 : decode cX4_sum 8 = .ok (.getfield 116, 3) := by decide +kernel
theorem dX4_sum_11 : decode cX4_sum 11 = .ok (.ldc2_w 93, 3) := by decide +kernel
theorem dX4_sum_14 : decode cX4_sum 14 = .ok (.ldiv, 1) := by decide +kernel
theorem dX4_sum_15 : decode cX4_sum 15 = .ok (.goto 6, 3) := by decide +kernel
theorem dX4_sum_18 : decode cX4_sum 18 = .ok (.ldc2_w 147, 3) := by decide +kernel
theorem dX4_sum_21 : decode cX4_sum 21 = .ok (.lreturn, 1) := by decide +kernel
theorem dX4_pageOf_0 : decode cX4_pageOf 0 = .ok (.iconst 0, 1) := by decide +kernel
theorem dX4_pageOf_1 : decode cX4_pageOf 1 = .ok (.istore_n 2, 1) := by decide +kernel
theorem dX4_pageOf_2 : decode cX4_pageOf 2 = .ok (.aload_n 0, 1) := by decide +kernel
theorem dX4_pageOf_3 : decode cX4_pageOf 3 = .ok (.getfield 30, 3) := by decide +kernel
theorem dX4_pageOf_6 : decode cX4_pageOf 6 = .ok (.iload_n 2, 1) := by decide +kernel
theorem dX4_pageOf_7 : decode cX4_pageOf 7 = .ok (.iconst 1, 1) := by decide +kernel
theorem dX4_pageOf_8 : decode cX4_pageOf 8 = .ok (.iadd, 1) := by decide +kernel
theorem dX4_pageOf_9 : decode cX4_pageOf 9 = .ok (.iaload, 1) := by decide +kernel
theorem dX4_pageOf_10 : decode cX4_pageOf 10 = .ok (.iload_n 1, 1) := by decide +kernel
theorem dX4_pageOf_11 : decode cX4_pageOf 11 = .ok (.if_icmp .gt 9, 3) := by decide +kernel
theorem dX4_pageOf_14 : decode cX4_pageOf 14 = .ok (.iinc 2 1, 3) := by decide +kernel
theorem dX4_pageOf_17 : decode cX4_pageOf 17 = .ok (.goto (-15), 3) := by decide +kernel
theorem dX4_pageOf_20 : decode cX4_pageOf 20 = .ok (.iload_n 2, 1) := by decide +kernel
theorem dX4_pageOf_21 : decode cX4_pageOf 21 = .ok (.ireturn, 1) := by decide +kernel
theorem dX4_lineOf_0 : decode cX4_lineOf 0 = .ok (.iconst 0, 1) := by decide +kernel
theorem dX4_lineOf_1 : decode cX4_lineOf 1 = .ok (.istore_n 2, 1) := by decide +kernel
theorem dX4_lineOf_2 : decode cX4_lineOf 2 = .ok (.aload_n 0, 1) := by decide +kernel
theorem dX4_lineOf_3 : decode cX4_lineOf 3 = .ok (.getfield 27, 3) := by decide +kernel
theorem dX4_lineOf_6 : decode cX4_lineOf 6 = .ok (.iload_n 2, 1) := by decide +kernel
theorem dX4_lineOf_7 : decode cX4_lineOf 7 = .ok (.iconst 1, 1) := by decide +kernel
theorem dX4_lineOf_8 : decode cX4_lineOf 8 = .ok (.iadd, 1) := by decide +kernel
theorem dX4_lineOf_9 : decode cX4_lineOf 9 = .ok (.iaload, 1) := by decide +kernel
theorem dX4_lineOf_10 : decode cX4_lineOf 10 = .ok (.iload_n 1, 1) := by decide +kernel
theorem dX4_lineOf_11 : decode cX4_lineOf 11 = .ok (.if_icmp .gt 9, 3) := by decide +kernel
theorem dX4_lineOf_14 : decode cX4_lineOf 14 = .ok (.iinc 2 1, 3) := by decide +kernel
theorem dX4_lineOf_17 : decode cX4_lineOf 17 = .ok (.goto (-15), 3) := by decide +kernel
theorem dX4_lineOf_20 : decode cX4_lineOf 20 = .ok (.iload_n 2, 1) := by decide +kernel
theorem dX4_lineOf_21 : decode cX4_lineOf 21 = .ok (.ireturn, 1) := by decide +kernel
set_option maxRecDepth 20000 in
theorem ggX4_line_X4_isThere : GoodIn wsX4_line wsX4_isThere := goodIn_r _ [8, 9, 10, 11, 12, 13, 7, 14, 15, 16, 17, 18, 19, 20, 21, 1, 22, 23, 24, 25, 26, 27, 28, 29, 30, 31, 32, 33, 34, 35, 36, 37, 38, 39, 40, 41, 42, 43, 44, 45, 46, 47, 48, 49, 50, 51, 52, 53, 54, 55, 56, 57, 58, 59, 60, 61, 62, 63, 2, 64, 65, 66, 67, 68, 69, 70, 71, 72, 73, 74, 75, 76, 77, 78, 79, 87, 88, 89, 90, 91, 92, 93, 94, 95, 96, 97, 98, 99, 100, 101, 102, 103, 104] rfl (by decide +kernel)
set_option maxRecDepth 20000 in
theorem gX4_line_X4_isThere : GoodIn wsX4_line (wsV RX4 143 RX4 yX4_isThere wsX4_isThere) := goodIn_app (goodIn_of _ (by decide +kernel)) ggX4_line_X4_isThere
set_option maxRecDepth 20000 in
theorem ggX4_line_X4_in : GoodIn wsX4_line wsX4_in := goodIn_r _ [82] rfl (by decide +kernel)
set_option maxRecDepth 20000 in
theorem gX4_line_X4_in : GoodIn wsX4_line (va_wsS RX4 60 yX4_in wsX4_in) := goodIn_app (goodIn_of _ (by decide +kernel)) ggX4_line_X4_in
set_option maxRecDepth 20000 in
theorem ggX4_line_X4_pageOf : GoodIn wsX4_line wsX4_pageOf := goodIn_r _ [86, 75, 87, 88, 89, 90, 91, 92, 93, 94, 95, 96, 97, 98, 99, 100, 101, 102, 103, 104] rfl (by decide +kernel)
set_option maxRecDepth 20000 in
theorem gX4_line_X4_pageOf : GoodIn wsX4_line (wsV RX4 149 RX4 yX4_pageOf wsX4_pageOf) := goodIn_app (goodIn_of _ (by decide +kernel)) ggX4_line_X4_pageOf
set_option maxRecDepth 20000 in
theorem ggX4_line_X4_off : GoodIn wsX4_line wsX4_off := goodIn_r _ [50, 38, 51, 39, 40, 41, 7, 42, 87, 88, 89, 90, 91, 92, 93, 94, 95, 96, 97, 98, 99, 100, 101, 102, 103, 104] rfl (by decide +kernel)
set_option maxRecDepth 20000 in
theorem gX4_line_X4_off : GoodIn wsX4_line (wsV RX4 84 RX4 yX4_off wsX4_off) := goodIn_app (goodIn_of _ (by decide +kernel)) ggX4_line_X4_off
theorem dX4_line_0 : decode cX4_line 0 = .ok (.aload_n 0, 1) := by decide +kernel
theorem dX4_line_1 : decode cX4_line 1 = .ok (.invokevirtual 143, 3) := by decide +kernel
theorem dX4_line_4 : decode cX4_line 4 = .ok (.ifCond .ne 6, 3) := by decide +kernel
theorem dX4_line_7 : decode cX4_line 7 = .ok (.bipush (-3), 2) := by decide +kernel
theorem dX4_line_9 : decode cX4_line 9 = .ok (.ireturn, 1) := by decide +kernel
theorem dX4_line_10 : decode cX4_line 10 = .ok (.iload_n 1, 1) := by decide +kernel
theorem dX4_line_11 : decode cX4_line 11 = .ok (.iconst 0, 1) := by decide +kernel
theorem dX4_line_12 : decode cX4_line 12 = .ok (.aload_n 0, 1) := by decide +kernel
theorem dX4_line_13 : decode cX4_line 13 = .ok (.getfield 122, 3) := by decide +kernel
theorem dX4_line_16 : decode cX4_line 16 = .ok (.iconst 1, 1) := by decide +kernel
theorem dX4_line_17 : decode cX4_line 17 = .ok (.isub, 1) := by decide +kernel
theorem dX4_line_18 : decode cX4_line 18 = .ok (.invokestatic 60, 3) := by decide +kernel
theorem dX4_line_21 : decode cX4_line 21 = .ok (.ifCond .ne 5, 3) := by decide +kernel
theorem dX4_line_24 : decode cX4_line 24 = .ok (.iconst (-1), 1) := by decide +kernel
theorem dX4_line_25 : decode cX4_line 25 = .ok (.ireturn, 1) := by decide +kernel
theorem dX4_line_26 : decode cX4_line 26 = .ok (.iload_n 2, 1) := by decide +kernel
theorem dX4_line_27 : decode cX4_line 27 = .ok (.tableswitch 77 0 3 #[29, 36, 47, 53], 29) := by decide +kernel
theorem dX4_line_56 : decode cX4_line 56 = .ok (.aload_n 0, 1) := by decide +kernel
theorem dX4_line_57 : decode cX4_line 57 = .ok (.getfield 27, 3) := by decide +kernel
theorem dX4_line_60 : decode cX4_line 60 = .ok (.iload_n 1, 1) := by decide +kernel
theorem dX4_line_61 : decode cX4_line 61 = .ok (.iaload, 1) := by decide +kernel
theorem dX4_line_62 : decode cX4_line 62 = .ok (.ireturn, 1) := by decide +kernel
theorem dX4_line_63 : decode cX4_line 63 = .ok (.aload_n 0, 1) := by decide +kernel
theorem dX4_line_64 : decode cX4_line 64 = .ok (.getfield 27, 3) := by decide +kernel
theorem dX4_line_67 : decode cX4_line 67 = .ok (.iload_n 1, 1) := by decide +kernel
theorem dX4_line_68 : decode cX4_line 68 = .ok (.iconst 1, 1) := by decide +kernel
theorem dX4_line_69 : decode cX4_line 69 = .ok (.iadd, 1) := by decide +kernel
theorem dX4_line_70 : decode cX4_line 70 = .ok (.iaload, 1) := by decide +kernel
theorem dX4_line_71 : decode cX4_line 71 = .ok (.iconst 1, 1) := by decide +kernel
theorem dX4_line_72 : decode cX4_line 72 = .ok (.isub, 1) := by decide +kernel
theorem dX4_line_73 : decode cX4_line 73 = .ok (.ireturn, 1) := by decide +kernel
theorem dX4_line_74 : decode cX4_line 74 = .ok (.aload_n 0, 1) := by decide +kernel
theorem dX4_line_75 : decode cX4_line 75 = .ok (.iload_n 1, 1) := by decide +kernel
theorem dX4_line_76 : decode cX4_line 76 = .ok (.invokevirtual 149, 3) := by decide +kernel
theorem dX4_line_79 : decode cX4_line 79 = .ok (.ireturn, 1) := by decide +kernel
theorem dX4_line_80 : decode cX4_line 80 = .ok (.ldc 76, 2) := by decide +kernel
theorem dX4_line_82 : decode cX4_line 82 = .ok (.aload_n 0, 1) := by decide +kernel
theorem dX4_line_83 : decode cX4_line 83 = .ok (.aload_n 0, 1) := by decide +kernel
theorem dX4_line_84 : decode cX4_line 84 = .ok (.getfield 27, 3) := by decide +kernel
theorem dX4_line_87 : decode cX4_line 87 = .ok (.iload_n 1, 1) := by decide +kernel
theorem dX4_line_88 : decode cX4_line 88 = .ok (.iaload, 1) := by decide +kernel
theorem dX4_line_89 : decode cX4_line 89 = .ok (.aload_n 0, 1) := by decide +kernel
theorem dX4_line_90 : decode cX4_line 90 = .ok (.getfield 27, 3) := by decide +kernel
theorem dX4_line_93 : decode cX4_line 93 = .ok (.iload_n 1, 1) := by decide +kernel
theorem dX4_line_94 : decode cX4_line 94 = .ok (.iconst 1, 1) := by decide +kernel
theorem dX4_line_95 : decode cX4_line 95 = .ok (.iadd, 1) := by decide +kernel
theorem dX4_line_96 : decode cX4_line 96 = .ok (.iaload, 1) := by decide +kernel
theorem dX4_line_97 : decode cX4_line 97 = .ok (.iconst 1, 1) := by decide +kernel
theorem dX4_line_98 : decode cX4_line 98 = .ok (.isub, 1) := by decide +kernel
theorem dX4_line_99 : decode cX4_line 99 = .ok (.invokevirtual 84, 3) := by decide +kernel
theorem dX4_line_102 : decode cX4_line 102 = .ok (.iadd, 1) := by decide +kernel
theorem dX4_line_103 : decode cX4_line 103 = .ok (.ireturn, 1) := by decide +kernel
theorem dX4_line_104 : decode cX4_line 104 = .ok (.bipush (-2), 2) := by decide +kernel
theorem dX4_line_106 : decode cX4_line 106 = .ok (.ireturn, 1) := by decide +kernel
set_option maxRecDepth 20000 in
theorem ggX4_page_X4_isThere : GoodIn wsX4_page wsX4_isThere := goodIn_r _ [7, 8, 9, 10, 11, 12, 6, 13, 14, 15, 16, 17, 18, 19, 20, 21, 1, 22, 23, 24, 25, 26, 27, 28, 29, 30, 31, 32, 33, 34, 35, 36, 37, 38, 39, 40, 41, 42, 43, 44, 45, 46, 47, 48, 49, 50, 51, 52, 53, 54, 55, 56, 57, 58, 59, 60, 61, 62, 63, 64, 65, 66, 67, 68, 69, 70, 71, 72, 73, 74, 2, 75, 76, 77, 78, 82, 83, 84, 85, 86, 87, 88, 89, 90, 91, 92, 93, 94, 95, 96, 97, 98, 99] rfl (by decide +kernel)
set_option maxRecDepth 20000 in
theorem gX4_page_X4_isThere : GoodIn wsX4_page (wsV RX4 143 RX4 yX4_isThere wsX4_isThere) := goodIn_app (goodIn_of _ (by decide +kernel)) ggX4_page_X4_isThere
set_option maxRecDepth 20000 in
theorem ggX4_page_X4_in : GoodIn wsX4_page wsX4_in := goodIn_r _ [81] rfl (by decide +kernel)
set_option maxRecDepth 20000 in
theorem gX4_page_X4_in : GoodIn wsX4_page (va_wsS RX4 60 yX4_in wsX4_in) := goodIn_app (goodIn_of _ (by decide +kernel)) ggX4_page_X4_in
set_option maxRecDepth 20000 in
theorem ggX4_page_X4_pageCost : GoodIn wsX4_page wsX4_pageCost := goodIn_r _ [78, 21, 29, 63, 55, 56, 57, 6, 58, 35, 82, 83, 84, 85, 86, 87, 88, 89, 90, 91, 92, 93, 94, 95, 96, 97, 98, 99] rfl (by decide +kernel)
set_option maxRecDepth 20000 in
theorem gX4_page_X4_pageCost : GoodIn wsX4_page (wsV RX4 137 RX4 yX4_pageCost wsX4_pageCost) := goodIn_app (goodIn_of _ (by decide +kernel)) ggX4_page_X4_pageCost
theorem dX4_page_0 : decode cX4_page 0 = .ok (.aload_n 0, 1) := by decide +kernel
theorem dX4_page_1 : decode cX4_page 1 = .ok (.invokevirtual 143, 3) := by decide +kernel
theorem dX4_page_4 : decode cX4_page 4 = .ok (.ifCond .ne 6, 3) := by decide +kernel
theorem dX4_page_7 : decode cX4_page 7 = .ok (.bipush (-3), 2) := by decide +kernel
theorem dX4_page_9 : decode cX4_page 9 = .ok (.ireturn, 1) := by decide +kernel
theorem dX4_page_10 : decode cX4_page 10 = .ok (.iload_n 1, 1) := by decide +kernel
theorem dX4_page_11 : decode cX4_page 11 = .ok (.iconst 0, 1) := by decide +kernel
theorem dX4_page_12 : decode cX4_page 12 = .ok (.aload_n 0, 1) := by decide +kernel
theorem dX4_page_13 : decode cX4_page 13 = .ok (.getfield 125, 3) := by decide +kernel
theorem dX4_page_16 : decode cX4_page 16 = .ok (.iconst 1, 1) := by decide +kernel
theorem dX4_page_17 : decode cX4_page 17 = .ok (.isub, 1) := by decide +kernel
theorem dX4_page_18 : decode cX4_page 18 = .ok (.invokestatic 60, 3) := by decide +kernel
theorem dX4_page_21 : decode cX4_page 21 = .ok (.ifCond .ne 5, 3) := by decide +kernel
theorem dX4_page_24 : decode cX4_page 24 = .ok (.iconst (-1), 1) := by decide +kernel
theorem dX4_page_25 : decode cX4_page 25 = .ok (.ireturn, 1) := by decide +kernel
theorem dX4_page_26 : decode cX4_page 26 = .ok (.iload_n 2, 1) := by decide +kernel
theorem dX4_page_27 : decode cX4_page 27 = .ok (.tableswitch 68 0 2 #[25, 32, 48], 25) := by decide +kernel
theorem dX4_page_52 : decode cX4_page 52 = .ok (.aload_n 0, 1) := by decide +kernel
theorem dX4_page_53 : decode cX4_page 53 = .ok (.getfield 30, 3) := by decide +kernel
theorem dX4_page_56 : decode cX4_page 56 = .ok (.iload_n 1, 1) := by decide +kernel
theorem dX4_page_57 : decode cX4_page 57 = .ok (.iaload, 1) := by decide +kernel
theorem dX4_page_58 : decode cX4_page 58 = .ok (.ireturn, 1) := by decide +kernel
theorem dX4_page_59 : decode cX4_page 59 = .ok (.aload_n 0, 1) := by decide +kernel
theorem dX4_page_60 : decode cX4_page 60 = .ok (.getfield 30, 3) := by decide +kernel
theorem dX4_page_63 : decode cX4_page 63 = .ok (.iload_n 1, 1) := by decide +kernel
theorem dX4_page_64 : decode cX4_page 64 = .ok (.iconst 1, 1) := by decide +kernel
theorem dX4_page_65 : decode cX4_page 65 = .ok (.iadd, 1) := by decide +kernel
theorem dX4_page_66 : decode cX4_page 66 = .ok (.iaload, 1) := by decide +kernel
theorem dX4_page_67 : decode cX4_page 67 = .ok (.aload_n 0, 1) := by decide +kernel
theorem dX4_page_68 : decode cX4_page 68 = .ok (.getfield 30, 3) := by decide +kernel
theorem dX4_page_71 : decode cX4_page 71 = .ok (.iload_n 1, 1) := by decide +kernel
theorem dX4_page_72 : decode cX4_page 72 = .ok (.iaload, 1) := by decide +kernel
theorem dX4_page_73 : decode cX4_page 73 = .ok (.isub, 1) := by decide +kernel
theorem dX4_page_74 : decode cX4_page 74 = .ok (.ireturn, 1) := by decide +kernel
theorem dX4_page_75 : decode cX4_page 75 = .ok (.aload_n 0, 1) := by decide +kernel
theorem dX4_page_76 : decode cX4_page 76 = .ok (.aload_n 0, 1) := by decide +kernel
theorem dX4_page_77 : decode cX4_page 77 = .ok (.getfield 30, 3) := by decide +kernel
theorem dX4_page_80 : decode cX4_page 80 = .ok (.iload_n 1, 1) := by decide +kernel
theorem dX4_page_81 : decode cX4_page 81 = .ok (.iaload, 1) := by decide +kernel
theorem dX4_page_82 : decode cX4_page 82 = .ok (.aload_n 0, 1) := by decide +kernel
theorem dX4_page_83 : decode cX4_page 83 = .ok (.getfield 30, 3) := by decide +kernel
theorem dX4_page_86 : decode cX4_page 86 = .ok (.iload_n 1, 1) := by decide +kernel
theorem dX4_page_87 : decode cX4_page 87 = .ok (.iconst 1, 1) := by decide +kernel
theorem dX4_page_88 : decode cX4_page 88 = .ok (.iadd, 1) := by decide +kernel
theorem dX4_page_89 : decode cX4_page 89 = .ok (.iaload, 1) := by decide +kernel
theorem dX4_page_90 : decode cX4_page 90 = .ok (.invokevirtual 137, 3) := by decide +kernel
theorem dX4_page_93 : decode cX4_page 93 = .ok (.l2i, 1) := by decide +kernel
theorem dX4_page_94 : decode cX4_page 94 = .ok (.ireturn, 1) := by decide +kernel
theorem dX4_page_95 : decode cX4_page 95 = .ok (.bipush (-2), 2) := by decide +kernel
theorem dX4_page_97 : decode cX4_page 97 = .ok (.ireturn, 1) := by decide +kernel
set_option maxRecDepth 20000 in
theorem ggX4_wide_X4_isOver : GoodIn wsX4_wide wsX4_isOver := goodIn_r _ [7, 1, 8, 9, 10, 11, 6, 12, 17, 18, 19, 20, 21, 22, 23, 24, 25, 26, 27, 28, 29, 30, 31, 32, 33, 34] rfl (by decide +kernel)
set_option maxRecDepth 20000 in
theorem gX4_wide_X4_isOver : GoodIn wsX4_wide (wsV RX4 88 RX4 yX4_isOver wsX4_isOver) := goodIn_app (goodIn_of _ (by decide +kernel)) ggX4_wide_X4_isOver
set_option maxRecDepth 20000 in
theorem ggX4_wide_X4_off : GoodIn wsX4_wide wsX4_off := goodIn_r _ [16, 8, 2, 9, 10, 11, 6, 12, 17, 18, 19, 20, 21, 22, 23, 24, 25, 26, 27, 28, 29, 30, 31, 32, 33, 34] rfl (by decide +kernel)
set_option maxRecDepth 20000 in
theorem gX4_wide_X4_off : GoodIn wsX4_wide (wsV RX4 84 RX4 yX4_off wsX4_off) := goodIn_app (goodIn_of _ (by decide +kernel)) ggX4_wide_X4_off
theorem dX4_wide_0 : decode cX4_wide 0 = .ok (.aload_n 0, 1) := by decide +kernel
theorem dX4_wide_1 : decode cX4_wide 1 = .ok (.iload_n 1, 1) := by decide +kernel
theorem dX4_wide_2 : decode cX4_wide 2 = .ok (.iload_n 2, 1) := by decide +kernel
theorem dX4_wide_3 : decode cX4_wide 3 = .ok (.invokevirtual 88, 3) := by decide +kernel
theorem dX4_wide_6 : decode cX4_wide 6 = .ok (.ifCond .eq 10, 3) := by decide +kernel
theorem dX4_wide_9 : decode cX4_wide 9 = .ok (.aload_n 0, 1) := by decide +kernel
theorem dX4_wide_10 : decode cX4_wide 10 = .ok (.getfield 7, 3) := by decide +kernel
theorem dX4_wide_13 : decode cX4_wide 13 = .ok (.iload_n 3, 1) := by decide +kernel
theorem dX4_wide_14 : decode cX4_wide 14 = .ok (.iaload, 1) := by decide +kernel
theorem dX4_wide_15 : decode cX4_wide 15 = .ok (.ireturn, 1) := by decide +kernel
theorem dX4_wide_16 : decode cX4_wide 16 = .ok (.aload_n 0, 1) := by decide +kernel
theorem dX4_wide_17 : decode cX4_wide 17 = .ok (.iload_n 1, 1) := by decide +kernel
theorem dX4_wide_18 : decode cX4_wide 18 = .ok (.iload_n 2, 1) := by decide +kernel
theorem dX4_wide_19 : decode cX4_wide 19 = .ok (.invokevirtual 84, 3) := by decide +kernel
theorem dX4_wide_22 : decode cX4_wide 22 = .ok (.i2l, 1) := by decide +kernel
theorem dX4_wide_23 : decode cX4_wide 23 = .ok (.lstore 4, 2) := by decide +kernel
theorem dX4_wide_25 : decode cX4_wide 25 = .ok (.lload 4, 2) := by decide +kernel
theorem dX4_wide_27 : decode cX4_wide 27 = .ok (.lconst 0, 1) := by decide +kernel
theorem dX4_wide_28 : decode cX4_wide 28 = .ok (.lcmp, 1) := by decide +kernel
theorem dX4_wide_29 : decode cX4_wide 29 = .ok (.ifCond .ge 9, 3) := by decide +kernel
theorem dX4_wide_32 : decode cX4_wide 32 = .ok (.lload 4, 2) := by decide +kernel
theorem dX4_wide_34 : decode cX4_wide 34 = .ok (.lneg, 1) := by decide +kernel
theorem dX4_wide_35 : decode cX4_wide 35 = .ok (.goto 5, 3) := by decide +kernel
theorem dX4_wide_38 : decode cX4_wide 38 = .ok (.lload 4, 2) := by decide +kernel
theorem dX4_wide_40 : decode cX4_wide 40 = .ok (.lstore 6, 2) := by decide +kernel
theorem dX4_wide_42 : decode cX4_wide 42 = .ok (.lconst 0, 1) := by decide +kernel
theorem dX4_wide_43 : decode cX4_wide 43 = .ok (.lstore 8, 2) := by decide +kernel
theorem dX4_wide_45 : decode cX4_wide 45 = .ok (.lconst 0, 1) := by decide +kernel
theorem dX4_wide_46 : decode cX4_wide 46 = .ok (.lstore 10, 2) := by decide +kernel
theorem dX4_wide_48 : decode cX4_wide 48 = .ok (.iload_n 1, 1) := by decide +kernel
theorem dX4_wide_49 : decode cX4_wide 49 = .ok (.istore 12, 2) := by decide +kernel
theorem dX4_wide_51 : decode cX4_wide 51 = .ok (.iload 12, 2) := by decide +kernel
theorem dX4_wide_53 : decode cX4_wide 53 = .ok (.iload_n 2, 1) := by decide +kernel
theorem dX4_wide_54 : decode cX4_wide 54 = .ok (.if_icmp .gt 69, 3) := by decide +kernel
theorem dX4_wide_57 : decode cX4_wide 57 = .ok (.lload 4, 2) := by decide +kernel
theorem dX4_wide_59 : decode cX4_wide 59 = .ok (.lconst 0, 1) := by decide +kernel
theorem dX4_wide_60 : decode cX4_wide 60 = .ok (.lcmp, 1) := by decide +kernel
theorem dX4_wide_61 : decode cX4_wide 61 = .ok (.ifCond .ge 22, 3) := by decide +kernel
theorem dX4_wide_64 : decode cX4_wide 64 = .ok (.aload_n 0, 1) := by decide +kernel
theorem dX4_wide_65 : decode cX4_wide 65 = .ok (.getfield 13, 3) := by decide +kernel
theorem dX4_wide_68 : decode cX4_wide 68 = .ok (.iload 12, 2) := by decide +kernel
theorem dX4_wide_70 : decode cX4_wide 70 = .ok (.iaload, 1) := by decide +kernel
theorem dX4_wide_71 : decode cX4_wide 71 = .ok (.aload_n 0, 1) := by decide +kernel
theorem dX4_wide_72 : decode cX4_wide 72 = .ok (.getfield 7, 3) := by decide +kernel
theorem dX4_wide_75 : decode cX4_wide 75 = .ok (.iload 12, 2) := by decide +kernel
theorem dX4_wide_77 : decode cX4_wide 77 = .ok (.iaload, 1) := by decide +kernel
theorem dX4_wide_78 : decode cX4_wide 78 = .ok (.isub, 1) := by decide +kernel
theorem dX4_wide_79 : decode cX4_wide 79 = .ok (.i2l, 1) := by decide +kernel
theorem dX4_wide_80 : decode cX4_wide 80 = .ok (.goto 11, 3) := by decide +kernel
theorem dX4_wide_83 : decode cX4_wide 83 = .ok (.aload_n 0, 1) := by decide +kernel
theorem dX4_wide_84 : decode cX4_wide 84 = .ok (.getfield 13, 3) := by decide +kernel
theorem dX4_wide_87 : decode cX4_wide 87 = .ok (.iload 12, 2) := by decide +kernel
theorem dX4_wide_89 : decode cX4_wide 89 = .ok (.iaload, 1) := by decide +kernel
theorem dX4_wide_90 : decode cX4_wide 90 = .ok (.i2l, 1) := by decide +kernel
theorem dX4_wide_91 : decode cX4_wide 91 = .ok (.lstore 13, 2) := by decide +kernel
theorem dX4_wide_93 : decode cX4_wide 93 = .ok (.lload 8, 2) := by decide +kernel
theorem dX4_wide_95 : decode cX4_wide 95 = .ok (.lload 13, 2) := by decide +kernel
theorem dX4_wide_97 : decode cX4_wide 97 = .ok (.ladd, 1) := by decide +kernel
theorem dX4_wide_98 : decode cX4_wide 98 = .ok (.lstore 8, 2) := by decide +kernel
theorem dX4_wide_100 : decode cX4_wide 100 = .ok (.lload 10, 2) := by decide +kernel
theorem dX4_wide_102 : decode cX4_wide 102 = .ok (.iload 12, 2) := by decide +kernel
theorem dX4_wide_104 : decode cX4_wide 104 = .ok (.iload_n 3, 1) := by decide +kernel
theorem dX4_wide_105 : decode cX4_wide 105 = .ok (.if_icmp .gt 8, 3) := by decide +kernel
theorem dX4_wide_108 : decode cX4_wide 108 = .ok (.lload 13, 2) := by decide +kernel
theorem dX4_wide_110 : decode cX4_wide 110 = .ok (.goto 4, 3) := by decide +kernel
theorem dX4_wide_113 : decode cX4_wide 113 = .ok (.lconst 0, 1) := by decide +kernel
theorem dX4_wide_114 : decode cX4_wide 114 = .ok (.ladd, 1) := by decide +kernel
theorem dX4_wide_115 : decode cX4_wide 115 = .ok (.lstore 10, 2) := by decide +kernel
theorem dX4_wide_117 : decode cX4_wide 117 = .ok (.iinc 12 1, 3) := by decide +kernel
theorem dX4_wide_120 : decode cX4_wide 120 = .ok (.goto (-69), 3) := by decide +kernel
theorem dX4_wide_123 : decode cX4_wide 123 = .ok (.lload 4, 2) := by decide +kernel
theorem dX4_wide_125 : decode cX4_wide 125 = .ok (.lconst 0, 1) := by decide +kernel
theorem dX4_wide_126 : decode cX4_wide 126 = .ok (.lcmp, 1) := by decide +kernel
theorem dX4_wide_127 : decode cX4_wide 127 = .ok (.ifCond .ge 20, 3) := by decide +kernel
theorem dX4_wide_130 : decode cX4_wide 130 = .ok (.aload_n 0, 1) := by decide +kernel
theorem dX4_wide_131 : decode cX4_wide 131 = .ok (.getfield 13, 3) := by decide +kernel
theorem dX4_wide_134 : decode cX4_wide 134 = .ok (.iload_n 3, 1) := by decide +kernel
theorem dX4_wide_135 : decode cX4_wide 135 = .ok (.iaload, 1) := by decide +kernel
theorem dX4_wide_136 : decode cX4_wide 136 = .ok (.aload_n 0, 1) := by decide +kernel
theorem dX4_wide_137 : decode cX4_wide 137 = .ok (.getfield 7, 3) := by decide +kernel
theorem dX4_wide_140 : decode cX4_wide 140 = .ok (.iload_n 3, 1) := by decide +kernel
theorem dX4_wide_141 : decode cX4_wide 141 = .ok (.iaload, 1) := by decide +kernel
theorem dX4_wide_142 : decode cX4_wide 142 = .ok (.isub, 1) := by decide +kernel
theorem dX4_wide_143 : decode cX4_wide 143 = .ok (.i2l, 1) := by decide +kernel
theorem dX4_wide_144 : decode cX4_wide 144 = .ok (.goto 10, 3) := by decide +kernel
theorem dX4_wide_147 : decode cX4_wide 147 = .ok (.aload_n 0, 1) := by decide +kernel
theorem dX4_wide_148 : decode cX4_wide 148 = .ok (.getfield 13, 3) := by decide +kernel
theorem dX4_wide_151 : decode cX4_wide 151 = .ok (.iload_n 3, 1) := by decide +kernel
theorem dX4_wide_152 : decode cX4_wide 152 = .ok (.iaload, 1) := by decide +kernel
theorem dX4_wide_153 : decode cX4_wide 153 = .ok (.i2l, 1) := by decide +kernel
theorem dX4_wide_154 : decode cX4_wide 154 = .ok (.lstore 12, 2) := by decide +kernel
theorem dX4_wide_156 : decode cX4_wide 156 = .ok (.lload 6, 2) := by decide +kernel
theorem dX4_wide_158 : decode cX4_wide 158 = .ok (.lload 10, 2) := by decide +kernel
theorem dX4_wide_160 : decode cX4_wide 160 = .ok (.lmul, 1) := by decide +kernel
theorem dX4_wide_161 : decode cX4_wide 161 = .ok (.lload 8, 2) := by decide +kernel
theorem dX4_wide_163 : decode cX4_wide 163 = .ok (.ldiv, 1) := by decide +kernel
theorem dX4_wide_164 : decode cX4_wide 164 = .ok (.lload 6, 2) := by decide +kernel
