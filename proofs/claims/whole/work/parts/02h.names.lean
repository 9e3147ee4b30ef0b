theorem dX4_find_13 : decode cX4_find 13 = .ok (.aload_n 0, 1) := by decide +kernel
theorem dX4_find_14 : decode cX4_find 14 = .ok (.getfield 77, 3) := by decide +kernel
theorem dX4_find_17 : decode cX4_find 17 = .ok (.ifCond .ne 7, 3) := by decide +kernel
theorem dX4_find_20 : decode cX4_find 20 = .ok (.iconst 0, 1) := by decide +kernel
theorem dX4_find_21 : decode cX4_find 21 = .ok (.goto 5, 3) := by decide +kernel
theorem dX4_find_24 : decode cX4_find 24 = .ok (.bipush 24, 2) := by decide +kernel
theorem dX4_find_26 : decode cX4_find 26 = .ok (.istore_n 1, 1) := by decide +kernel
theorem dX4_find_27 : decode cX4_find 27 = .ok (.aload_n 0, 1) := by decide +kernel
theorem dX4_find_28 : decode cX4_find 28 = .ok (.getfield 57, 3) := by decide +kernel
theorem dX4_find_31 : decode cX4_find 31 = .ok (.istore_n 2, 1) := by decide +kernel
theorem dX4_find_32 : decode cX4_find 32 = .ok (.iload_n 2, 1) := by decide +kernel
theorem dX4_find_33 : decode cX4_find 33 = .ok (.ifCond .le 84, 3) := by decide +kernel
theorem dX4_find_36 : decode cX4_find 36 = .ok (.iconst 1, 1) := by decide +kernel
theorem dX4_find_37 : decode cX4_find 37 = .ok (.istore_n 3, 1) := by decide +kernel
theorem dX4_find_38 : decode cX4_find 38 = .ok (.iload_n 3, 1) := by decide +kernel
theorem dX4_find_39 : decode cX4_find 39 = .ok (.aload_n 0, 1) := by decide +kernel
theorem dX4_find_40 : decode cX4_find 40 = .ok (.getfield 46, 3) := by decide +kernel
theorem dX4_find_43 : decode cX4_find 43 = .ok (.if_icmp .gt 68, 3) := by decide +kernel
theorem dX4_find_46 : decode cX4_find 46 = .ok (.iconst 0, 1) := by decide +kernel
theorem dX4_find_47 : decode cX4_find 47 = .ok (.istore 4, 2) := by decide +kernel
theorem dX4_find_49 : decode cX4_find 49 = .ok (.iload 4, 2) := by decide +kernel
theorem dX4_find_51 : decode cX4_find 51 = .ok (.iload_n 1, 1) := by decide +kernel
theorem dX4_find_52 : decode cX4_find 52 = .ok (.if_icmp .gt 53, 3) := by decide +kernel
theorem dX4_find_55 : decode cX4_find 55 = .ok (.aload_n 0, 1) := by decide +kernel
theorem dX4_find_56 : decode cX4_find 56 = .ok (.getfield 24, 3) := by decide +kernel
theorem dX4_find_59 : decode cX4_find 59 = .ok (.iload_n 2, 1) := by decide +kernel
theorem dX4_find_60 : decode cX4_find 60 = .ok (.iload_n 3, 1) := by decide +kernel
theorem dX4_find_61 : decode cX4_find 61 = .ok (.iload 4, 2) := by decide +kernel
theorem dX4_find_63 : decode cX4_find 63 = .ok (.iconst 1, 1) := by decide +kernel
theorem dX4_find_64 : decode cX4_find 64 = .ok (.invokestatic 102, 3) := by decide +kernel
theorem dX4_find_67 : decode cX4_find 67 = .ok (.aload_n 0, 1) := by decide +kernel
theorem dX4_find_68 : decode cX4_find 68 = .ok (.iload_n 2, 1) := by decide +kernel
theorem dX4_find_69 : decode cX4_find 69 = .ok (.iload_n 3, 1) := by decide +kernel
theorem dX4_find_70 : decode cX4_find 70 = .ok (.iload 4, 2) := by decide +kernel
theorem dX4_find_72 : decode cX4_find 72 = .ok (.iconst 1, 1) := by decide +kernel
theorem dX4_find_73 : decode cX4_find 73 = .ok (.invokevirtual 112, 3) := by decide +kernel
theorem dX4_find_76 : decode cX4_find 76 = .ok (.lastore, 1) := by decide +kernel
theorem dX4_find_77 : decode cX4_find 77 = .ok (.aload_n 0, 1) := by decide +kernel
theorem dX4_find_78 : decode cX4_find 78 = .ok (.getfield 24, 3) := by decide +kernel
theorem dX4_find_81 : decode cX4_find 81 = .ok (.iload_n 2, 1) := by decide +kernel
theorem dX4_find_82 : decode cX4_find 82 = .ok (.iload_n 3, 1) := by decide +kernel
theorem dX4_find_83 : decode cX4_find 83 = .ok (.iload 4, 2) := by decide +kernel
theorem dX4_find_85 : decode cX4_find 85 = .ok (.iconst 0, 1) := by decide +kernel
theorem dX4_find_86 : decode cX4_find 86 = .ok (.invokestatic 102, 3) := by decide +kernel
theorem dX4_find_89 : decode cX4_find 89 = .ok (.aload_n 0, 1) := by decide +kernel
theorem dX4_find_90 : decode cX4_find 90 = .ok (.iload_n 2, 1) := by decide +kernel
theorem dX4_find_91 : decode cX4_find 91 = .ok (.iload_n 3, 1) := by decide +kernel
theorem dX4_find_92 : decode cX4_find 92 = .ok (.iload 4, 2) := by decide +kernel
theorem dX4_find_94 : decode cX4_find 94 = .ok (.iconst 0, 1) := by decide +kernel
theorem dX4_find_95 : decode cX4_find 95 = .ok (.invokevirtual 112, 3) := by decide +kernel
theorem dX4_find_98 : decode cX4_find 98 = .ok (.lastore, 1) := by decide +kernel
theorem dX4_find_99 : decode cX4_find 99 = .ok (.iinc 4 1, 3) := by decide +kernel
theorem dX4_find_102 : decode cX4_find 102 = .ok (.goto (-53), 3) := by decide +kernel
theorem dX4_find_105 : decode cX4_find 105 = .ok (.iinc 3 1, 3) := by decide +kernel
theorem dX4_find_108 : decode cX4_find 108 = .ok (.goto (-70), 3) := by decide +kernel
theorem dX4_find_111 : decode cX4_find 111 = .ok (.iinc 2 (-1), 3) := by decide +kernel
theorem dX4_find_114 : decode cX4_find 114 = .ok (.goto (-82), 3) := by decide +kernel
theorem dX4_find_117 : decode cX4_find 117 = .ok (.aload_n 0, 1) := by decide +kernel
theorem dX4_find_118 : decode cX4_find 118 = .ok (.aload_n 0, 1) := by decide +kernel
theorem dX4_find_119 : decode cX4_find 119 = .ok (.getfield 57, 3) := by decide +kernel
theorem dX4_find_122 : decode cX4_find 122 = .ok (.ifCond .ne 20, 3) := by decide +kernel
theorem dX4_find_125 : decode cX4_find 125 = .ok (.aload_n 0, 1) := by decide +kernel
theorem dX4_find_126 : decode cX4_find 126 = .ok (.getfield 77, 3) := by decide +kernel
theorem dX4_find_129 : decode cX4_find 129 = .ok (.ifCond .ne 7, 3) := by decide +kernel
theorem dX4_find_132 : decode cX4_find 132 = .ok (.lconst 0, 1) := by decide +kernel
theorem dX4_find_133 : decode cX4_find 133 = .ok (.goto 12, 3) := by decide +kernel
theorem dX4_find_136 : decode cX4_find 136 = .ok (.ldc2_w 91, 3) := by decide +kernel
theorem dX4_find_139 : decode cX4_find 139 = .ok (.goto 6, 3) := by decide +kernel
theorem dX4_find_142 : decode cX4_find 142 = .ok (.ldc2_w 91, 3) := by decide +kernel
theorem dX4_find_145 : decode cX4_find 145 = .ok (.putfield 116, 3) := by decide +kernel
theorem dX4_find_148 : decode cX4_find 148 = .ok (.aload_n 0, 1) := by decide +kernel
theorem dX4_find_149 : decode cX4_find 149 = .ok (.getfield 77, 3) := by decide +kernel
theorem dX4_find_152 : decode cX4_find 152 = .ok (.ifCond .ne 7, 3) := by decide +kernel
theorem dX4_find_155 : decode cX4_find 155 = .ok (.iconst 0, 1) := by decide +kernel
theorem dX4_find_156 : decode cX4_find 156 = .ok (.goto 4, 3) := by decide +kernel
theorem dX4_find_159 : decode cX4_find 159 = .ok (.iconst 1, 1) := by decide +kernel
theorem dX4_find_160 : decode cX4_find 160 = .ok (.istore_n 2, 1) := by decide +kernel
theorem dX4_find_161 : decode cX4_find 161 = .ok (.iconst 0, 1) := by decide +kernel
theorem dX4_find_162 : decode cX4_find 162 = .ok (.istore_n 3, 1) := by decide +kernel
theorem dX4_find_163 : decode cX4_find 163 = .ok (.iload_n 3, 1) := by decide +kernel
theorem dX4_find_164 : decode cX4_find 164 = .ok (.aload_n 0, 1) := by decide +kernel
theorem dX4_find_165 : decode cX4_find 165 = .ok (.getfield 57, 3) := by decide +kernel
theorem dX4_find_168 : decode cX4_find 168 = .ok (.if_icmp .ge 91, 3) := by decide +kernel
theorem dX4_find_171 : decode cX4_find 171 = .ok (.aload_n 0, 1) := by decide +kernel
theorem dX4_find_172 : decode cX4_find 172 = .ok (.iconst 0, 1) := by decide +kernel
theorem dX4_find_173 : decode cX4_find 173 = .ok (.iload_n 3, 1) := by decide +kernel
theorem dX4_find_174 : decode cX4_find 174 = .ok (.invokevirtual 95, 3) := by decide +kernel
theorem dX4_find_177 : decode cX4_find 177 = .ok (.ifCond .eq 76, 3) := by decide +kernel
theorem dX4_find_180 : decode cX4_find 180 = .ok (.aload_n 0, 1) := by decide +kernel
theorem dX4_find_181 : decode cX4_find 181 = .ok (.getfield 24, 3) := by decide +kernel
theorem dX4_find_184 : decode cX4_find 184 = .ok (.iload_n 3, 1) := by decide +kernel
theorem dX4_find_185 : decode cX4_find 185 = .ok (.iconst 1, 1) := by decide +kernel
theorem dX4_find_186 : decode cX4_find 186 = .ok (.iadd, 1) := by decide +kernel
theorem dX4_find_187 : decode cX4_find 187 = .ok (.iconst 1, 1) := by decide +kernel
theorem dX4_find_188 : decode cX4_find 188 = .ok (.iload_n 2, 1) := by decide +kernel
theorem dX4_find_189 : decode cX4_find 189 = .ok (.iconst 1, 1) := by decide +kernel
theorem dX4_find_190 : decode cX4_find 190 = .ok (.invokestatic 102, 3) := by decide +kernel
theorem dX4_find_193 : decode cX4_find 193 = .ok (.laload, 1) := by decide +kernel
theorem dX4_find_194 : decode cX4_find 194 = .ok (.lstore 4, 2) := by decide +kernel
theorem dX4_find_196 : decode cX4_find 196 = .ok (.lload 4, 2) := by decide +kernel
theorem dX4_find_198 : decode cX4_find 198 = .ok (.ldc2_w 91, 3) := by decide +kernel
theorem dX4_find_201 : decode cX4_find 201 = .ok (.lcmp, 1) := by decide +kernel
theorem dX4_find_202 : decode cX4_find 202 = .ok (.ifCond .ne 9, 3) := by decide +kernel
theorem dX4_find_205 : decode cX4_find 205 = .ok (.ldc2_w 91, 3) := by decide +kernel
theorem dX4_find_208 : decode cX4_find 208 = .ok (.goto 20, 3) := by decide +kernel
theorem dX4_find_211 : decode cX4_find 211 = .ok (.lload 4, 2) := by decide +kernel
theorem dX4_find_213 : decode cX4_find 213 = .ok (.ldc2_w 93, 3) := by decide +kernel
theorem dX4_find_216 : decode cX4_find 216 = .ok (.aload_n 0, 1) := by decide +kernel
theorem dX4_find_217 : decode cX4_find 217 = .ok (.iconst 0, 1) := by decide +kernel
theorem dX4_find_218 : decode cX4_find 218 = .ok (.iload_n 3, 1) := by decide +kernel
theorem dX4_find_219 : decode cX4_find 219 = .ok (.invokevirtual 98, 3) := by decide +kernel
theorem dX4_find_222 : decode cX4_find 222 = .ok (.lmul, 1) := by decide +kernel
theorem dX4_find_223 : decode cX4_find 223 = .ok (.ladd, 1) := by decide +kernel
theorem dX4_find_224 : decode cX4_find 224 = .ok (.ldc2_w 120, 3) := by decide +kernel
theorem dX4_find_227 : decode cX4_find 227 = .ok (.ladd, 1) := by decide +kernel
theorem dX4_find_228 : decode cX4_find 228 = .ok (.lstore 6, 2) := by decide +kernel
theorem dX4_find_230 : decode cX4_find 230 = .ok (.aload_n 0, 1) := by decide +kernel
theorem dX4_find_231 : decode cX4_find 231 = .ok (.lload 6, 2) := by decide +kernel
theorem dX4_find_233 : decode cX4_find 233 = .ok (.aload_n 0, 1) := by decide +kernel
theorem dX4_find_234 : decode cX4_find 234 = .ok (.getfield 116, 3) := by decide +kernel
theorem dX4_find_237 : decode cX4_find 237 = .ok (.lcmp, 1) := by decide +kernel
theorem dX4_find_238 : decode cX4_find 238 = .ok (.ifCond .ge 8, 3) := by decide +kernel
theorem dX4_find_241 : decode cX4_find 241 = .ok (.lload 6, 2) := by decide +kernel
theorem dX4_find_243 : decode cX4_find 243 = .ok (.goto 7, 3) := by decide +kernel
theorem dX4_find_246 : decode cX4_find 246 = .ok (.aload_n 0, 1) := by decide +kernel
theorem dX4_find_247 : decode cX4_find 247 = .ok (.getfield 116, 3) := by decide +kernel
theorem dX4_find_250 : decode cX4_find 250 = .ok (.putfield 116, 3) := by decide +kernel
theorem dX4_find_253 : decode cX4_find 253 = .ok (.iinc 3 1, 3) := by decide +kernel
theorem dX4_find_256 : decode cX4_find 256 = .ok (.goto (-93), 3) := by decide +kernel
theorem dX4_find_259 : decode cX4_find 259 = .ok (.aload_n 0, 1) := by decide +kernel
theorem dX4_find_260 : decode cX4_find 260 = .ok (.iconst 0, 1) := by decide +kernel
theorem dX4_find_261 : decode cX4_find 261 = .ok (.putfield 122, 3) := by decide +kernel
theorem dX4_find_264 : decode cX4_find 264 = .ok (.aload_n 0, 1) := by decide +kernel
theorem dX4_find_265 : decode cX4_find 265 = .ok (.iconst 0, 1) := by decide +kernel
theorem dX4_find_266 : decode cX4_find 266 = .ok (.putfield 125, 3) := by decide +kernel
theorem dX4_find_269 : decode cX4_find 269 = .ok (.aload_n 0, 1) := by decide +kernel
theorem dX4_find_270 : decode cX4_find 270 = .ok (.getfield 116, 3) := by decide +kernel
theorem dX4_find_273 : decode cX4_find 273 = .ok (.ldc2_w 91, 3) := by decide +kernel
theorem dX4_find_276 : decode cX4_find 276 = .ok (.lcmp, 1) := by decide +kernel
theorem dX4_find_277 : decode cX4_find 277 = .ok (.ifCond .eq 18, 3) := by decide +kernel
theorem dX4_find_280 : decode cX4_find 280 = .ok (.aload_n 0, 1) := by decide +kernel
theorem dX4_find_281 : decode cX4_find 281 = .ok (.getfield 57, 3) := by decide +kernel
theorem dX4_find_284 : decode cX4_find 284 = .ok (.ifCond .le 11, 3) := by decide +kernel
theorem dX4_find_287 : decode cX4_find 287 = .ok (.aload_n 0, 1) := by decide +kernel
theorem dX4_find_288 : decode cX4_find 288 = .ok (.invokevirtual 128, 3) := by decide +kernel
theorem dX4_find_291 : decode cX4_find 291 = .ok (.aload_n 0, 1) := by decide +kernel
theorem dX4_find_292 : decode cX4_find 292 = .ok (.invokevirtual 131, 3) := by decide +kernel
theorem dX4_find_295 : decode cX4_find 295 = .ok (.return_, 1) := by decide +kernel
set_option maxRecDepth 20000 in
theorem ggX4_reaches_X4_costOf : GoodIn wsX4_reaches wsX4_costOf := goodIn_r _ [14, 15, 16, 17, 18, 19, 13, 20, 21, 22, 23, 24, 25, 26, 27, 28, 29, 30, 31, 40, 41, 42, 43, 44, 45, 46, 47, 48, 49, 50, 51, 52, 53, 54, 55, 56, 57] rfl (by decide +kernel)
set_option maxRecDepth 20000 in
theorem gX4_reaches_X4_costOf : GoodIn wsX4_reaches (wsV RX4 98 RX4 yX4_costOf wsX4_costOf) := goodIn_app (goodIn_of _ (by decide +kernel)) ggX4_reaches_X4_costOf
set_option maxRecDepth 20000 in
theorem ggX4_reaches_X4_turnAt : GoodIn wsX4_reaches wsX4_turnAt := goodIn_r _ [35, 36, 15, 40, 41, 42, 43, 44, 45, 46, 47, 48, 49, 50, 51, 52, 53, 54, 55, 56, 57] rfl (by decide +kernel)
set_option maxRecDepth 20000 in
theorem gX4_reaches_X4_turnAt : GoodIn wsX4_reaches (wsV RX4 106 RX4 yX4_turnAt wsX4_turnAt) := goodIn_app (goodIn_of _ (by decide +kernel)) ggX4_reaches_X4_turnAt
set_option maxRecDepth 20000 in
theorem ggX4_reaches_X4_place : GoodIn wsX4_reaches wsX4_place := goodIn_r _ [39] rfl (by decide +kernel)
set_option maxRecDepth 20000 in
theorem gX4_reaches_X4_place : GoodIn wsX4_reaches (va_wsS RX4 102 yX4_place wsX4_place) := goodIn_app (goodIn_of _ (by decide +kernel)) ggX4_reaches_X4_place
theorem dX4_reaches_0 : decode cX4_reaches 0 = .ok (.ldc2_w 93, 3) := by decide +kernel
theorem dX4_reaches_3 : decode cX4_reaches 3 = .ok (.aload_n 0, 1) := by decide +kernel
theorem dX4_reaches_4 : decode cX4_reaches 4 = .ok (.iload_n 1, 1) := by decide +kernel
theorem dX4_reaches_5 : decode cX4_reaches 5 = .ok (.iload_n 2, 1) := by decide +kernel
theorem dX4_reaches_6 : decode cX4_reaches 6 = .ok (.invokevirtual 98, 3) := by decide +kernel
theorem dX4_reaches_9 : decode cX4_reaches 9 = .ok (.lmul, 1) := by decide +kernel
theorem dX4_reaches_10 : decode cX4_reaches 10 = .ok (.lconst 1, 1) := by decide +kernel
theorem dX4_reaches_11 : decode cX4_reaches 11 = .ok (.ladd, 1) := by decide +kernel
theorem dX4_reaches_12 : decode cX4_reaches 12 = .ok (.lstore 4, 2) := by decide +kernel
theorem dX4_reaches_14 : decode cX4_reaches 14 = .ok (.iconst 0, 1) := by decide +kernel
theorem dX4_reaches_15 : decode cX4_reaches 15 = .ok (.istore 6, 2) := by decide +kernel
theorem dX4_reaches_17 : decode cX4_reaches 17 = .ok (.iload 6, 2) := by decide +kernel
theorem dX4_reaches_19 : decode cX4_reaches 19 = .ok (.bipush 18, 2) := by decide +kernel
theorem dX4_reaches_21 : decode cX4_reaches 21 = .ok (.if_icmp .ge 19, 3) := by decide +kernel
theorem dX4_reaches_24 : decode cX4_reaches 24 = .ok (.aload_n 0, 1) := by decide +kernel
theorem dX4_reaches_25 : decode cX4_reaches 25 = .ok (.getfield 36, 3) := by decide +kernel
theorem dX4_reaches_28 : decode cX4_reaches 28 = .ok (.iload 6, 2) := by decide +kernel
theorem dX4_reaches_30 : decode cX4_reaches 30 = .ok (.ldc2_w 91, 3) := by decide +kernel
theorem dX4_reaches_33 : decode cX4_reaches 33 = .ok (.lastore, 1) := by decide +kernel
theorem dX4_reaches_34 : decode cX4_reaches 34 = .ok (.iinc 6 1, 3) := by decide +kernel
theorem dX4_reaches_37 : decode cX4_reaches 37 = .ok (.goto (-20), 3) := by decide +kernel
theorem dX4_reaches_40 : decode cX4_reaches 40 = .ok (.iload_n 1, 1) := by decide +kernel
theorem dX4_reaches_41 : decode cX4_reaches 41 = .ok (.ifCond .ne 15, 3) := by decide +kernel
theorem dX4_reaches_44 : decode cX4_reaches 44 = .ok (.aload_n 0, 1) := by decide +kernel
theorem dX4_reaches_45 : decode cX4_reaches 45 = .ok (.getfield 36, 3) := by decide +kernel
theorem dX4_reaches_48 : decode cX4_reaches 48 = .ok (.iconst 3, 1) := by decide +kernel
theorem dX4_reaches_49 : decode cX4_reaches 49 = .ok (.lload 4, 2) := by decide +kernel
theorem dX4_reaches_51 : decode cX4_reaches 51 = .ok (.ldc2_w 110, 3) := by decide +kernel
theorem dX4_reaches_54 : decode cX4_reaches 54 = .ok (.ladd, 1) := by decide +kernel
theorem dX4_reaches_55 : decode cX4_reaches 55 = .ok (.lastore, 1) := by decide +kernel
theorem dX4_reaches_56 : decode cX4_reaches 56 = .ok (.iconst 2, 1) := by decide +kernel
theorem dX4_reaches_57 : decode cX4_reaches 57 = .ok (.istore 6, 2) := by decide +kernel
theorem dX4_reaches_59 : decode cX4_reaches 59 = .ok (.iload 6, 2) := by decide +kernel
theorem dX4_reaches_61 : decode cX4_reaches 61 = .ok (.bipush 18, 2) := by decide +kernel
theorem dX4_reaches_63 : decode cX4_reaches 63 = .ok (.if_icmp .ge 150, 3) := by decide +kernel
theorem dX4_reaches_66 : decode cX4_reaches 66 = .ok (.iload_n 1, 1) := by decide +kernel
theorem dX4_reaches_67 : decode cX4_reaches 67 = .ok (.ifCond .le 146, 3) := by decide +kernel
theorem dX4_reaches_70 : decode cX4_reaches 70 = .ok (.aload_n 0, 1) := by decide +kernel
theorem dX4_reaches_71 : decode cX4_reaches 71 = .ok (.getfield 33, 3) := by decide +kernel
theorem dX4_reaches_74 : decode cX4_reaches 74 = .ok (.iload 6, 2) := by decide +kernel
theorem dX4_reaches_76 : decode cX4_reaches 76 = .ok (.laload, 1) := by decide +kernel
theorem dX4_reaches_77 : decode cX4_reaches 77 = .ok (.ldc2_w 91, 3) := by decide +kernel
theorem dX4_reaches_80 : decode cX4_reaches 80 = .ok (.lcmp, 1) := by decide +kernel
theorem dX4_reaches_81 : decode cX4_reaches 81 = .ok (.ifCond .ne 6, 3) := by decide +kernel
theorem dX4_reaches_84 : decode cX4_reaches 84 = .ok (.goto 123, 3) := by decide +kernel
theorem dX4_reaches_87 : decode cX4_reaches 87 = .ok (.iload 6, 2) := by decide +kernel
theorem dX4_reaches_89 : decode cX4_reaches 89 = .ok (.iconst 2, 1) := by decide +kernel
theorem dX4_reaches_90 : decode cX4_reaches 90 = .ok (.idiv, 1) := by decide +kernel
theorem dX4_reaches_91 : decode cX4_reaches 91 = .ok (.aload_n 0, 1) := by decide +kernel
theorem dX4_reaches_92 : decode cX4_reaches 92 = .ok (.getfield 46, 3) := by decide +kernel
theorem dX4_reaches_95 : decode cX4_reaches 95 = .ok (.if_icmp .ge 57, 3) := by decide +kernel
theorem dX4_reaches_98 : decode cX4_reaches 98 = .ok (.aload_n 0, 1) := by decide +kernel
theorem dX4_reaches_99 : decode cX4_reaches 99 = .ok (.getfield 36, 3) := by decide +kernel
theorem dX4_reaches_102 : decode cX4_reaches 102 = .ok (.iload 6, 2) := by decide +kernel
theorem dX4_reaches_104 : decode cX4_reaches 104 = .ok (.iconst 2, 1) := by decide +kernel
theorem dX4_reaches_105 : decode cX4_reaches 105 = .ok (.iadd, 1) := by decide +kernel
theorem dX4_reaches_106 : decode cX4_reaches 106 = .ok (.aload_n 0, 1) := by decide +kernel
theorem dX4_reaches_107 : decode cX4_reaches 107 = .ok (.getfield 33, 3) := by decide +kernel
theorem dX4_reaches_110 : decode cX4_reaches 110 = .ok (.iload 6, 2) := by decide +kernel
theorem dX4_reaches_112 : decode cX4_reaches 112 = .ok (.laload, 1) := by decide +kernel
theorem dX4_reaches_113 : decode cX4_reaches 113 = .ok (.lload 4, 2) := by decide +kernel
theorem dX4_reaches_115 : decode cX4_reaches 115 = .ok (.ladd, 1) := by decide +kernel
theorem dX4_reaches_116 : decode cX4_reaches 116 = .ok (.aload_n 0, 1) := by decide +kernel
theorem dX4_reaches_117 : decode cX4_reaches 117 = .ok (.getfield 36, 3) := by decide +kernel
theorem dX4_reaches_120 : decode cX4_reaches 120 = .ok (.iload 6, 2) := by decide +kernel
theorem dX4_reaches_122 : decode cX4_reaches 122 = .ok (.iconst 2, 1) := by decide +kernel
theorem dX4_reaches_123 : decode cX4_reaches 123 = .ok (.iadd, 1) := by decide +kernel
theorem dX4_reaches_124 : decode cX4_reaches 124 = .ok (.laload, 1) := by decide +kernel
theorem dX4_reaches_125 : decode cX4_reaches 125 = .ok (.lcmp, 1) := by decide +kernel
theorem dX4_reaches_126 : decode cX4_reaches 126 = .ok (.ifCond .ge 16, 3) := by decide +kernel
theorem dX4_reaches_129 : decode cX4_reaches 129 = .ok (.aload_n 0, 1) := by decide +kernel
theorem dX4_reaches_130 : decode cX4_reaches 130 = .ok (.getfield 33, 3) := by decide +kernel
theorem dX4_reaches_133 : decode cX4_reaches 133 = .ok (.iload 6, 2) := by decide +kernel
theorem dX4_reaches_135 : decode cX4_reaches 135 = .ok (.laload, 1) := by decide +kernel
theorem dX4_reaches_136 : decode cX4_reaches 136 = .ok (.lload 4, 2) := by decide +kernel
theorem dX4_reaches_138 : decode cX4_reaches 138 = .ok (.ladd, 1) := by decide +kernel
theorem dX4_reaches_139 : decode cX4_reaches 139 = .ok (.goto 12, 3) := by decide +kernel
theorem dX4_reaches_142 : decode cX4_reaches 142 = .ok (.aload_n 0, 1) := by decide +kernel
theorem dX4_reaches_143 : decode cX4_reaches 143 = .ok (.getfield 36, 3) := by decide +kernel
theorem dX4_reaches_146 : decode cX4_reaches 146 = .ok (.iload 6, 2) := by decide +kernel
theorem dX4_reaches_148 : decode cX4_reaches 148 = .ok (.iconst 2, 1) := by decide +kernel
theorem dX4_reaches_149 : decode cX4_reaches 149 = .ok (.iadd, 1) := by decide +kernel
theorem dX4_reaches_150 : decode cX4_reaches 150 = .ok (.laload, 1) := by decide +kernel
theorem dX4_reaches_151 : decode cX4_reaches 151 = .ok (.lastore, 1) := by decide +kernel
theorem dX4_reaches_152 : decode cX4_reaches 152 = .ok (.aload_n 0, 1) := by decide +kernel
theorem dX4_reaches_153 : decode cX4_reaches 153 = .ok (.getfield 33, 3) := by decide +kernel
theorem dX4_reaches_156 : decode cX4_reaches 156 = .ok (.iload 6, 2) := by decide +kernel
theorem dX4_reaches_158 : decode cX4_reaches 158 = .ok (.laload, 1) := by decide +kernel
theorem dX4_reaches_159 : decode cX4_reaches 159 = .ok (.lload 4, 2) := by decide +kernel
theorem dX4_reaches_161 : decode cX4_reaches 161 = .ok (.ladd, 1) := by decide +kernel
theorem dX4_reaches_162 : decode cX4_reaches 162 = .ok (.ldc2_w 93, 3) := by decide +kernel
theorem dX4_reaches_165 : decode cX4_reaches 165 = .ok (.aload_n 0, 1) := by decide +kernel
theorem dX4_reaches_166 : decode cX4_reaches 166 = .ok (.iload_n 1, 1) := by decide +kernel
theorem dX4_reaches_167 : decode cX4_reaches 167 = .ok (.invokevirtual 106, 3) := by decide +kernel
theorem dX4_reaches_170 : decode cX4_reaches 170 = .ok (.lmul, 1) := by decide +kernel
theorem dX4_reaches_171 : decode cX4_reaches 171 = .ok (.ladd, 1) := by decide +kernel
theorem dX4_reaches_172 : decode cX4_reaches 172 = .ok (.ldc2_w 110, 3) := by decide +kernel
theorem dX4_reaches_175 : decode cX4_reaches 175 = .ok (.ladd, 1) := by decide +kernel
theorem dX4_reaches_176 : decode cX4_reaches 176 = .ok (.lstore 7, 2) := by decide +kernel
theorem dX4_reaches_178 : decode cX4_reaches 178 = .ok (.aload_n 0, 1) := by decide +kernel
theorem dX4_reaches_179 : decode cX4_reaches 179 = .ok (.getfield 36, 3) := by decide +kernel
theorem dX4_reaches_182 : decode cX4_reaches 182 = .ok (.iconst 2, 1) := by decide +kernel
theorem dX4_reaches_183 : decode cX4_reaches 183 = .ok (.lload 7, 2) := by decide +kernel
theorem dX4_reaches_185 : decode cX4_reaches 185 = .ok (.aload_n 0, 1) := by decide +kernel
theorem dX4_reaches_186 : decode cX4_reaches 186 = .ok (.getfield 36, 3) := by decide +kernel
theorem dX4_reaches_189 : decode cX4_reaches 189 = .ok (.iconst 2, 1) := by decide +kernel
theorem dX4_reaches_190 : decode cX4_reaches 190 = .ok (.laload, 1) := by decide +kernel
theorem dX4_reaches_191 : decode cX4_reaches 191 = .ok (.lcmp, 1) := by decide +kernel
theorem dX4_reaches_192 : decode cX4_reaches 192 = .ok (.ifCond .ge 8, 3) := by decide +kernel
theorem dX4_reaches_195 : decode cX4_reaches 195 = .ok (.lload 7, 2) := by decide +kernel
theorem dX4_reaches_197 : decode cX4_reaches 197 = .ok (.goto 9, 3) := by decide +kernel
theorem dX4_reaches_200 : decode cX4_reaches 200 = .ok (.aload_n 0, 1) := by decide +kernel
theorem dX4_reaches_201 : decode cX4_reaches 201 = .ok (.getfield 36, 3) := by decide +kernel
theorem dX4_reaches_204 : decode cX4_reaches 204 = .ok (.iconst 2, 1) := by decide +kernel
theorem dX4_reaches_205 : decode cX4_reaches 205 = .ok (.laload, 1) := by decide +kernel
theorem dX4_reaches_206 : decode cX4_reaches 206 = .ok (.lastore, 1) := by decide +kernel
theorem dX4_reaches_207 : decode cX4_reaches 207 = .ok (.iinc 6 1, 3) := by decide +kernel
theorem dX4_reaches_210 : decode cX4_reaches 210 = .ok (.goto (-151), 3) := by decide +kernel
theorem dX4_reaches_213 : decode cX4_reaches 213 = .ok (.iconst 2, 1) := by decide +kernel
theorem dX4_reaches_214 : decode cX4_reaches 214 = .ok (.istore 6, 2) := by decide +kernel
theorem dX4_reaches_216 : decode cX4_reaches 216 = .ok (.iload 6, 2) := by decide +kernel
theorem dX4_reaches_218 : decode cX4_reaches 218 = .ok (.bipush 18, 2) := by decide +kernel
theorem dX4_reaches_220 : decode cX4_reaches 220 = .ok (.if_icmp .ge 113, 3) := by decide +kernel
theorem dX4_reaches_223 : decode cX4_reaches 223 = .ok (.aload_n 0, 1) := by decide +kernel
theorem dX4_reaches_224 : decode cX4_reaches 224 = .ok (.getfield 36, 3) := by decide +kernel
theorem dX4_reaches_227 : decode cX4_reaches 227 = .ok (.iload 6, 2) := by decide +kernel
theorem dX4_reaches_229 : decode cX4_reaches 229 = .ok (.laload, 1) := by decide +kernel
theorem dX4_reaches_230 : decode cX4_reaches 230 = .ok (.ldc2_w 91, 3) := by decide +kernel
theorem dX4_reaches_233 : decode cX4_reaches 233 = .ok (.lcmp, 1) := by decide +kernel
theorem dX4_reaches_234 : decode cX4_reaches 234 = .ok (.ifCond .eq 14, 3) := by decide +kernel
theorem dX4_reaches_237 : decode cX4_reaches 237 = .ok (.iload 6, 2) := by decide +kernel
theorem dX4_reaches_239 : decode cX4_reaches 239 = .ok (.iconst 2, 1) := by decide +kernel
theorem dX4_reaches_240 : decode cX4_reaches 240 = .ok (.idiv, 1) := by decide +kernel
theorem dX4_reaches_241 : decode cX4_reaches 241 = .ok (.aload_n 0, 1) := by decide +kernel
theorem dX4_reaches_242 : decode cX4_reaches 242 = .ok (.getfield 46, 3) := by decide +kernel
theorem dX4_reaches_245 : decode cX4_reaches 245 = .ok (.if_icmp .le 9, 3) := by decide +kernel
theorem dX4_reaches_248 : decode cX4_reaches 248 = .ok (.ldc2_w 91, 3) := by decide +kernel
theorem dX4_reaches_251 : decode cX4_reaches 251 = .ok (.goto 45, 3) := by decide +kernel
theorem dX4_reaches_254 : decode cX4_reaches 254 = .ok (.aload_n 0, 1) := by decide +kernel
theorem dX4_reaches_255 : decode cX4_reaches 255 = .ok (.getfield 24, 3) := by decide +kernel
theorem dX4_reaches_258 : decode cX4_reaches 258 = .ok (.iload_n 2, 1) := by decide +kernel
theorem dX4_reaches_259 : decode cX4_reaches 259 = .ok (.iconst 1, 1) := by decide +kernel
theorem dX4_reaches_260 : decode cX4_reaches 260 = .ok (.iadd, 1) := by decide +kernel
theorem dX4_reaches_261 : decode cX4_reaches 261 = .ok (.iload 6, 2) := by decide +kernel
theorem dX4_reaches_263 : decode cX4_reaches 263 = .ok (.iconst 2, 1) := by decide +kernel
theorem dX4_reaches_264 : decode cX4_reaches 264 = .ok (.idiv, 1) := by decide +kernel
theorem dX4_reaches_265 : decode cX4_reaches 265 = .ok (.aload_n 0, 1) := by decide +kernel
theorem dX4_reaches_266 : decode cX4_reaches 266 = .ok (.getfield 77, 3) := by decide +kernel
theorem dX4_reaches_269 : decode cX4_reaches 269 = .ok (.ifCond .ne 7, 3) := by decide +kernel
theorem dX4_reaches_272 : decode cX4_reaches 272 = .ok (.iconst 0, 1) := by decide +kernel
theorem dX4_reaches_273 : decode cX4_reaches 273 = .ok (.goto 6, 3) := by decide +kernel
theorem dX4_reaches_276 : decode cX4_reaches 276 = .ok (.iload_n 3, 1) := by decide +kernel
theorem dX4_reaches_277 : decode cX4_reaches 277 = .ok (.iconst 1, 1) := by decide +kernel
theorem dX4_reaches_278 : decode cX4_reaches 278 = .ok (.iadd, 1) := by decide +kernel
theorem dX4_reaches_279 : decode cX4_reaches 279 = .ok (.iload 6, 2) := by decide +kernel
theorem dX4_reaches_281 : decode cX4_reaches 281 = .ok (.iconst 2, 1) := by decide +kernel
theorem dX4_reaches_282 : decode cX4_reaches 282 = .ok (.irem, 1) := by decide +kernel
theorem dX4_reaches_283 : decode cX4_reaches 283 = .ok (.iconst 1, 1) := by decide +kernel
theorem dX4_reaches_284 : decode cX4_reaches 284 = .ok (.if_icmp .ne 7, 3) := by decide +kernel
theorem dX4_reaches_287 : decode cX4_reaches 287 = .ok (.iconst 1, 1) := by decide +kernel
theorem dX4_reaches_288 : decode cX4_reaches 288 = .ok (.goto 4, 3) := by decide +kernel
theorem dX4_reaches_291 : decode cX4_reaches 291 = .ok (.iconst 0, 1) := by decide +kernel
theorem dX4_reaches_292 : decode cX4_reaches 292 = .ok (.invokestatic 102, 3) := by decide +kernel
theorem dX4_reaches_295 : decode cX4_reaches 295 = .ok (.laload, 1) := by decide +kernel
theorem dX4_reaches_296 : decode cX4_reaches 296 = .ok (.lstore 7, 2) := by decide +kernel
theorem dX4_reaches_298 : decode cX4_reaches 298 = .ok (.lload 7, 2) := by decide +kernel
theorem dX4_reaches_300 : decode cX4_reaches 300 = .ok (.ldc2_w 91, 3) := by decide +kernel
theorem dX4_reaches_303 : decode cX4_reaches 303 = .ok (.lcmp, 1) := by decide +kernel
theorem dX4_reaches_304 : decode cX4_reaches 304 = .ok (.ifCond .eq 23, 3) := by decide +kernel
theorem dX4_reaches_307 : decode cX4_reaches 307 = .ok (.aload_n 0, 1) := by decide +kernel
theorem dX4_reaches_308 : decode cX4_reaches 308 = .ok (.getfield 36, 3) := by decide +kernel
theorem dX4_reaches_311 : decode cX4_reaches 311 = .ok (.iload 6, 2) := by decide +kernel
theorem dX4_reaches_313 : decode cX4_reaches 313 = .ok (.laload, 1) := by decide +kernel
theorem dX4_reaches_314 : decode cX4_reaches 314 = .ok (.lload 7, 2) := by decide +kernel
theorem dX4_reaches_316 : decode cX4_reaches 316 = .ok (.ladd, 1) := by decide +kernel
theorem dX4_reaches_317 : decode cX4_reaches 317 = .ok (.aload_n 0, 1) := by decide +kernel
theorem dX4_reaches_318 : decode cX4_reaches 318 = .ok (.getfield 116, 3) := by decide +kernel
theorem dX4_reaches_321 : decode cX4_reaches 321 = .ok (.lcmp, 1) := by decide +kernel
theorem dX4_reaches_322 : decode cX4_reaches 322 = .ok (.ifCond .ne 5, 3) := by decide +kernel
theorem dX4_reaches_325 : decode cX4_reaches 325 = .ok (.iconst 1, 1) := by decide +kernel
theorem dX4_reaches_326 : decode cX4_reaches 326 = .ok (.ireturn, 1) := by decide +kernel
theorem dX4_reaches_327 : decode cX4_reaches 327 = .ok (.iinc 6 1, 3) := by decide +kernel
theorem dX4_reaches_330 : decode cX4_reaches 330 = .ok (.goto (-114), 3) := by decide +kernel
theorem dX4_reaches_333 : decode cX4_reaches 333 = .ok (.iconst 0, 1) := by decide +kernel
theorem dX4_reaches_334 : decode cX4_reaches 334 = .ok (.ireturn, 1) := by decide +kernel
set_option maxRecDepth 20000 in
theorem ggX4_pickLines_X4_mayBe : GoodIn wsX4_pickLines wsX4_mayBe := goodIn_r _ [10, 11, 1, 12, 13, 14, 15, 16, 9, 17, 50, 51, 52, 53, 54, 55, 56, 57, 58, 59, 60, 61, 62, 63, 64, 65, 66, 67] rfl (by decide +kernel)
set_option maxRecDepth 20000 in
theorem gX4_pickLines_X4_mayBe : GoodIn wsX4_pickLines (wsV RX4 95 RX4 yX4_mayBe wsX4_mayBe) := goodIn_app (goodIn_of _ (by decide +kernel)) ggX4_pickLines_X4_mayBe
set_option maxRecDepth 20000 in
theorem ggX4_pickLines_X4_reaches : GoodIn wsX4_pickLines wsX4_reaches := goodIn_r _ [21, 22, 5, 23, 24, 4, 25, 26, 27, 28, 29, 30, 31, 9, 32, 33, 1, 34, 35, 36, 37, 13, 38, 14, 15, 16, 17, 39, 40, 41, 42, 12, 43, 44, 45, 46, 11, 47, 48, 49, 50, 51, 52, 53, 54, 55, 56, 57, 58, 59, 60, 61, 62, 63, 64, 65, 66, 67] rfl (by decide +kernel)
set_option maxRecDepth 20000 in
theorem gX4_pickLines_X4_reaches : GoodIn wsX4_pickLines (wsV RX4 134 RX4 yX4_reaches wsX4_reaches) := goodIn_app (goodIn_of _ (by decide +kernel)) ggX4_pickLines_X4_reaches
theorem dX4_pickLines_0 : decode cX4_pickLines 0 = .ok (.iconst 0, 1) := by decide +kernel
theorem dX4_pickLines_1 : decode cX4_pickLines 1 = .ok (.istore_n 1, 1) := by decide +kernel
theorem dX4_pickLines_2 : decode cX4_pickLines 2 = .ok (.iload_n 1, 1) := by decide +kernel
theorem dX4_pickLines_3 : decode cX4_pickLines 3 = .ok (.aload_n 0, 1) := by decide +kernel
theorem dX4_pickLines_4 : decode cX4_pickLines 4 = .ok (.getfield 57, 3) := by decide +kernel
theorem dX4_pickLines_7 : decode cX4_pickLines 7 = .ok (.if_icmp .ge 91, 3) := by decide +kernel
theorem dX4_pickLines_10 : decode cX4_pickLines 10 = .ok (.aload_n 0, 1) := by decide +kernel
theorem dX4_pickLines_11 : decode cX4_pickLines 11 = .ok (.getfield 57, 3) := by decide +kernel
theorem dX4_pickLines_14 : decode cX4_pickLines 14 = .ok (.iconst 1, 1) := by decide +kernel
theorem dX4_pickLines_15 : decode cX4_pickLines 15 = .ok (.isub, 1) := by decide +kernel
theorem dX4_pickLines_16 : decode cX4_pickLines 16 = .ok (.istore_n 2, 1) := by decide +kernel
theorem dX4_pickLines_17 : decode cX4_pickLines 17 = .ok (.aload_n 0, 1) := by decide +kernel
theorem dX4_pickLines_18 : decode cX4_pickLines 18 = .ok (.iload_n 1, 1) := by decide +kernel
theorem dX4_pickLines_19 : decode cX4_pickLines 19 = .ok (.iload_n 2, 1) := by decide +kernel
theorem dX4_pickLines_20 : decode cX4_pickLines 20 = .ok (.invokevirtual 95, 3) := by decide +kernel
theorem dX4_pickLines_23 : decode cX4_pickLines 23 = .ok (.ifCond .eq 16, 3) := by decide +kernel
theorem dX4_pickLines_26 : decode cX4_pickLines 26 = .ok (.aload_n 0, 1) := by decide +kernel
theorem dX4_pickLines_27 : decode cX4_pickLines 27 = .ok (.iload_n 1, 1) := by decide +kernel
theorem dX4_pickLines_28 : decode cX4_pickLines 28 = .ok (.iload_n 2, 1) := by decide +kernel
theorem dX4_pickLines_29 : decode cX4_pickLines 29 = .ok (.aload_n 0, 1) := by decide +kernel
theorem dX4_pickLines_30 : decode cX4_pickLines 30 = .ok (.getfield 122, 3) := by decide +kernel
theorem dX4_pickLines_33 : decode cX4_pickLines 33 = .ok (.invokevirtual 134, 3) := by decide +kernel
theorem dX4_pickLines_36 : decode cX4_pickLines 36 = .ok (.ifCond .ne 9, 3) := by decide +kernel
theorem dX4_pickLines_39 : decode cX4_pickLines 39 = .ok (.iinc 2 (-1), 3) := by decide +kernel
theorem dX4_pickLines_42 : decode cX4_pickLines 42 = .ok (.goto (-25), 3) := by decide +kernel
theorem dX4_pickLines_45 : decode cX4_pickLines 45 = .ok (.aload_n 0, 1) := by decide +kernel
theorem dX4_pickLines_46 : decode cX4_pickLines 46 = .ok (.getfield 27, 3) := by decide +kernel
theorem dX4_pickLines_49 : decode cX4_pickLines 49 = .ok (.aload_n 0, 1) := by decide +kernel
theorem dX4_pickLines_50 : decode cX4_pickLines 50 = .ok (.getfield 122, 3) := by decide +kernel
theorem dX4_pickLines_53 : decode cX4_pickLines 53 = .ok (.iload_n 1, 1) := by decide +kernel
theorem dX4_pickLines_54 : decode cX4_pickLines 54 = .ok (.iastore, 1) := by decide +kernel
theorem dX4_pickLines_55 : decode cX4_pickLines 55 = .ok (.aload_n 0, 1) := by decide +kernel
theorem dX4_pickLines_56 : decode cX4_pickLines 56 = .ok (.dup, 1) := by decide +kernel
theorem dX4_pickLines_57 : decode cX4_pickLines 57 = .ok (.getfield 122, 3) := by decide +kernel
theorem dX4_pickLines_60 : decode cX4_pickLines 60 = .ok (.iconst 1, 1) := by decide +kernel
theorem dX4_pickLines_61 : decode cX4_pickLines 61 = .ok (.iadd, 1) := by decide +kernel
theorem dX4_pickLines_62 : decode cX4_pickLines 62 = .ok (.putfield 122, 3) := by decide +kernel
theorem dX4_pickLines_65 : decode cX4_pickLines 65 = .ok (.iconst 0, 1) := by decide +kernel
theorem dX4_pickLines_66 : decode cX4_pickLines 66 = .ok (.istore_n 3, 1) := by decide +kernel
theorem dX4_pickLines_67 : decode cX4_pickLines 67 = .ok (.iload_n 3, 1) := by decide +kernel
theorem dX4_pickLines_68 : decode cX4_pickLines 68 = .ok (.bipush 18, 2) := by decide +kernel
theorem dX4_pickLines_70 : decode cX4_pickLines 70 = .ok (.if_icmp .ge 21, 3) := by decide +kernel
theorem dX4_pickLines_73 : decode cX4_pickLines 73 = .ok (.aload_n 0, 1) := by decide +kernel
theorem dX4_pickLines_74 : decode cX4_pickLines 74 = .ok (.getfield 33, 3) := by decide +kernel
theorem dX4_pickLines_77 : decode cX4_pickLines 77 = .ok (.iload_n 3, 1) := by decide +kernel
theorem dX4_pickLines_78 : decode cX4_pickLines 78 = .ok (.aload_n 0, 1) := by decide +kernel
theorem dX4_pickLines_79 : decode cX4_pickLines 79 = .ok (.getfield 36, 3) := by decide +kernel
theorem dX4_pickLines_82 : decode cX4_pickLines 82 = .ok (.iload_n 3, 1) := by decide +kernel
theorem dX4_pickLines_83 : decode cX4_pickLines 83 = .ok (.laload, 1) := by decide +kernel
theorem dX4_pickLines_84 : decode cX4_pickLines 84 = .ok (.lastore, 1) := by decide +kernel
theorem dX4_pickLines_85 : decode cX4_pickLines 85 = .ok (.iinc 3 1, 3) := by decide +kernel
theorem dX4_pickLines_88 : decode cX4_pickLines 88 = .ok (.goto (-21), 3) := by decide +kernel
theorem dX4_pickLines_91 : decode cX4_pickLines 91 = .ok (.iload_n 2, 1) := by decide +kernel
theorem dX4_pickLines_92 : decode cX4_pickLines 92 = .ok (.iconst 1, 1) := by decide +kernel
theorem dX4_pickLines_93 : decode cX4_pickLines 93 = .ok (.iadd, 1) := by decide +kernel
theorem dX4_pickLines_94 : decode cX4_pickLines 94 = .ok (.istore_n 1, 1) := by decide +kernel
theorem dX4_pickLines_95 : decode cX4_pickLines 95 = .ok (.goto (-93), 3) := by decide +kernel
theorem dX4_pickLines_98 : decode cX4_pickLines 98 = .ok (.aload_n 0, 1) := by decide +kernel
theorem dX4_pickLines_99 : decode cX4_pickLines 99 = .ok (.getfield 27, 3) := by decide +kernel
theorem dX4_pickLines_102 : decode cX4_pickLines 102 = .ok (.aload_n 0, 1) := by decide +kernel
theorem dX4_pickLines_103 : decode cX4_pickLines 103 = .ok (.getfield 122, 3) := by decide +kernel
theorem dX4_pickLines_106 : decode cX4_pickLines 106 = .ok (.aload_n 0, 1) := by decide +kernel
theorem dX4_pickLines_107 : decode cX4_pickLines 107 = .ok (.getfield 57, 3) := by decide +kernel
theorem dX4_pickLines_110 : decode cX4_pickLines 110 = .ok (.iastore, 1) := by decide +kernel
theorem dX4_pickLines_111 : decode cX4_pickLines 111 = .ok (.return_, 1) := by decide +kernel
set_option maxRecDepth 20000 in
theorem ggX4_pageCost_X4_turnAt : GoodIn wsX4_pageCost wsX4_turnAt := goodIn_r _ [8, 9, 2, 10, 11, 12, 13, 14, 15, 16, 17, 18, 19, 20, 21, 22, 23, 24, 25, 26, 27] rfl (by decide +kernel)
set_option maxRecDepth 20000 in
theorem gX4_pageCost_X4_turnAt : GoodIn wsX4_pageCost (wsV RX4 106 RX4 yX4_turnAt wsX4_turnAt) := goodIn_app (goodIn_of _ (by decide +kernel)) ggX4_pageCost_X4_turnAt
theorem dX4_pageCost_0 : decode cX4_pageCost 0 = .ok (.iload_n 2, 1) := by decide +kernel
theorem dX4_pageCost_1 : decode cX4_pageCost 1 = .ok (.aload_n 0, 1) := by decide +kernel
theorem dX4_pageCost_2 : decode cX4_pageCost 2 = .ok (.getfield 122, 3) := by decide +kernel
theorem dX4_pageCost_5 : decode cX4_pageCost 5 = .ok (.if_icmp .ne 25, 3) := by decide +kernel
theorem dX4_pageCost_8 : decode cX4_pageCost 8 = .ok (.iload_n 2, 1) := by decide +kernel
theorem dX4_pageCost_9 : decode cX4_pageCost 9 = .ok (.iload_n 1, 1) := by decide +kernel
theorem dX4_pageCost_10 : decode cX4_pageCost 10 = .ok (.isub, 1) := by decide +kernel
theorem dX4_pageCost_11 : decode cX4_pageCost 11 = .ok (.iconst 1, 1) := by decide +kernel
theorem dX4_pageCost_12 : decode cX4_pageCost 12 = .ok (.if_icmp .ne 16, 3) := by decide +kernel
theorem dX4_pageCost_15 : decode cX4_pageCost 15 = .ok (.iload_n 1, 1) := by decide +kernel
theorem dX4_pageCost_16 : decode cX4_pageCost 16 = .ok (.ifCond .le 12, 3) := by decide +kernel
theorem dX4_pageCost_19 : decode cX4_pageCost 19 = .ok (.aload_n 0, 1) := by decide +kernel
theorem dX4_pageCost_20 : decode cX4_pageCost 20 = .ok (.getfield 20, 3) := by decide +kernel
theorem dX4_pageCost_23 : decode cX4_pageCost 23 = .ok (.iconst 2, 1) := by decide +kernel
theorem dX4_pageCost_24 : decode cX4_pageCost 24 = .ok (.laload, 1) := by decide +kernel
theorem dX4_pageCost_25 : decode cX4_pageCost 25 = .ok (.goto 4, 3) := by decide +kernel
theorem dX4_pageCost_28 : decode cX4_pageCost 28 = .ok (.lconst 0, 1) := by decide +kernel
theorem dX4_pageCost_29 : decode cX4_pageCost 29 = .ok (.lreturn, 1) := by decide +kernel
theorem dX4_pageCost_30 : decode cX4_pageCost 30 = .ok (.aload_n 0, 1) := by decide +kernel
theorem dX4_pageCost_31 : decode cX4_pageCost 31 = .ok (.aload_n 0, 1) := by decide +kernel
theorem dX4_pageCost_32 : decode cX4_pageCost 32 = .ok (.getfield 27, 3) := by decide +kernel
theorem dX4_pageCost_35 : decode cX4_pageCost 35 = .ok (.iload_n 2, 1) := by decide +kernel
theorem dX4_pageCost_36 : decode cX4_pageCost 36 = .ok (.iaload, 1) := by decide +kernel
theorem dX4_pageCost_37 : decode cX4_pageCost 37 = .ok (.invokevirtual 106, 3) := by decide +kernel
theorem dX4_pageCost_40 : decode cX4_pageCost 40 = .ok (.lreturn, 1) := by decide +kernel
set_option maxRecDepth 20000 in
theorem ggX4_pickPages_X4_pageCost : GoodIn wsX4_pickPages wsX4_pageCost := goodIn_r _ [13, 2, 14, 15, 16, 17, 18, 12, 19, 20, 21, 22, 23, 24, 25, 26, 27, 28, 29, 30, 31, 32, 33, 34, 35, 36, 37, 38] rfl (by decide +kernel)
set_option maxRecDepth 20000 in
theorem gX4_pickPages_X4_pageCost : GoodIn wsX4_pickPages (wsV RX4 137 RX4 yX4_pageCost wsX4_pageCost) := goodIn_app (goodIn_of _ (by decide +kernel)) ggX4_pickPages_X4_pageCost
