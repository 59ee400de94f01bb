theorem dX11_init_0 : decode cX11_init 0 = .ok (.aload_n 0, 1) := by decide +kernel
theorem dX11_init_1 : decode cX11_init 1 = .ok (.invokespecial 1, 3) := by decide +kernel
theorem dX11_init_4 : decode cX11_init 4 = .ok (.aload_n 0, 1) := by decide +kernel
theorem dX11_init_5 : decode cX11_init 5 = .ok (.bipush 48, 2) := by decide +kernel
theorem dX11_init_7 : decode cX11_init 7 = .ok (.newarray .int, 2) := by decide +kernel
theorem dX11_init_9 : decode cX11_init 9 = .ok (.putfield 7, 3) := by decide +kernel
theorem dX11_init_12 : decode cX11_init 12 = .ok (.aload_n 0, 1) := by decide +kernel
theorem dX11_init_13 : decode cX11_init 13 = .ok (.bipush 48, 2) := by decide +kernel
theorem dX11_init_15 : decode cX11_init 15 = .ok (.newarray .long, 2) := by decide +kernel
theorem dX11_init_17 : decode cX11_init 17 = .ok (.putfield 13, 3) := by decide +kernel
theorem dX11_init_20 : decode cX11_init 20 = .ok (.aload_n 0, 1) := by decide +kernel
theorem dX11_init_21 : decode cX11_init 21 = .ok (.bipush 48, 2) := by decide +kernel
theorem dX11_init_23 : decode cX11_init 23 = .ok (.newarray .int, 2) := by decide +kernel
theorem dX11_init_25 : decode cX11_init 25 = .ok (.putfield 17, 3) := by decide +kernel
theorem dX11_init_28 : decode cX11_init 28 = .ok (.aload_n 0, 1) := by decide +kernel
theorem dX11_init_29 : decode cX11_init 29 = .ok (.bipush 48, 2) := by decide +kernel
theorem dX11_init_31 : decode cX11_init 31 = .ok (.newarray .int, 2) := by decide +kernel
theorem dX11_init_33 : decode cX11_init 33 = .ok (.putfield 20, 3) := by decide +kernel
theorem dX11_init_36 : decode cX11_init 36 = .ok (.aload_n 0, 1) := by decide +kernel
theorem dX11_init_37 : decode cX11_init 37 = .ok (.bipush 48, 2) := by decide +kernel
theorem dX11_init_39 : decode cX11_init 39 = .ok (.newarray .int, 2) := by decide +kernel
theorem dX11_init_41 : decode cX11_init 41 = .ok (.putfield 23, 3) := by decide +kernel
theorem dX11_init_44 : decode cX11_init 44 = .ok (.aload_n 0, 1) := by decide +kernel
theorem dX11_init_45 : decode cX11_init 45 = .ok (.bipush 48, 2) := by decide +kernel
theorem dX11_init_47 : decode cX11_init 47 = .ok (.newarray .int, 2) := by decide +kernel
theorem dX11_init_49 : decode cX11_init 49 = .ok (.putfield 26, 3) := by decide +kernel
theorem dX11_init_52 : decode cX11_init 52 = .ok (.aload_n 0, 1) := by decide +kernel
theorem dX11_init_53 : decode cX11_init 53 = .ok (.bipush 48, 2) := by decide +kernel
theorem dX11_init_55 : decode cX11_init 55 = .ok (.newarray .int, 2) := by decide +kernel
theorem dX11_init_57 : decode cX11_init 57 = .ok (.putfield 29, 3) := by decide +kernel
theorem dX11_init_60 : decode cX11_init 60 = .ok (.aload_n 0, 1) := by decide +kernel
theorem dX11_init_61 : decode cX11_init 61 = .ok (.iconst 3, 1) := by decide +kernel
theorem dX11_init_62 : decode cX11_init 62 = .ok (.newarray .int, 2) := by decide +kernel
theorem dX11_init_64 : decode cX11_init 64 = .ok (.putfield 32, 3) := by decide +kernel
theorem dX11_init_67 : decode cX11_init 67 = .ok (.aload_n 0, 1) := by decide +kernel
theorem dX11_init_68 : decode cX11_init 68 = .ok (.iconst 3, 1) := by decide +kernel
theorem dX11_init_69 : decode cX11_init 69 = .ok (.newarray .int, 2) := by decide +kernel
theorem dX11_init_71 : decode cX11_init 71 = .ok (.putfield 35, 3) := by decide +kernel
theorem dX11_init_74 : decode cX11_init 74 = .ok (.aload_n 0, 1) := by decide +kernel
theorem dX11_init_75 : decode cX11_init 75 = .ok (.sipush 4000, 3) := by decide +kernel
theorem dX11_init_78 : decode cX11_init 78 = .ok (.newarray .int, 2) := by decide +kernel
theorem dX11_init_80 : decode cX11_init 80 = .ok (.putfield 38, 3) := by decide +kernel
theorem dX11_init_83 : decode cX11_init 83 = .ok (.aload_n 0, 1) := by decide +kernel
theorem dX11_init_84 : decode cX11_init 84 = .ok (.sipush 4000, 3) := by decide +kernel
theorem dX11_init_87 : decode cX11_init 87 = .ok (.newarray .int, 2) := by decide +kernel
theorem dX11_init_89 : decode cX11_init 89 = .ok (.putfield 41, 3) := by decide +kernel
theorem dX11_init_92 : decode cX11_init 92 = .ok (.aload_n 0, 1) := by decide +kernel
theorem dX11_init_93 : decode cX11_init 93 = .ok (.bipush 120, 2) := by decide +kernel
theorem dX11_init_95 : decode cX11_init 95 = .ok (.newarray .int, 2) := by decide +kernel
theorem dX11_init_97 : decode cX11_init 97 = .ok (.putfield 44, 3) := by decide +kernel
theorem dX11_init_100 : decode cX11_init 100 = .ok (.aload_n 0, 1) := by decide +kernel
theorem dX11_init_101 : decode cX11_init 101 = .ok (.bipush 120, 2) := by decide +kernel
theorem dX11_init_103 : decode cX11_init 103 = .ok (.newarray .int, 2) := by decide +kernel
theorem dX11_init_105 : decode cX11_init 105 = .ok (.putfield 47, 3) := by decide +kernel
theorem dX11_init_108 : decode cX11_init 108 = .ok (.aload_n 0, 1) := by decide +kernel
theorem dX11_init_109 : decode cX11_init 109 = .ok (.bipush 120, 2) := by decide +kernel
theorem dX11_init_111 : decode cX11_init 111 = .ok (.newarray .int, 2) := by decide +kernel
theorem dX11_init_113 : decode cX11_init 113 = .ok (.putfield 50, 3) := by decide +kernel
theorem dX11_init_116 : decode cX11_init 116 = .ok (.aload_n 0, 1) := by decide +kernel
theorem dX11_init_117 : decode cX11_init 117 = .ok (.bipush 120, 2) := by decide +kernel
theorem dX11_init_119 : decode cX11_init 119 = .ok (.newarray .int, 2) := by decide +kernel
theorem dX11_init_121 : decode cX11_init 121 = .ok (.putfield 53, 3) := by decide +kernel
theorem dX11_init_124 : decode cX11_init 124 = .ok (.aload_n 0, 1) := by decide +kernel
theorem dX11_init_125 : decode cX11_init 125 = .ok (.bipush 120, 2) := by decide +kernel
theorem dX11_init_127 : decode cX11_init 127 = .ok (.newarray .long, 2) := by decide +kernel
theorem dX11_init_129 : decode cX11_init 129 = .ok (.putfield 56, 3) := by decide +kernel
theorem dX11_init_132 : decode cX11_init 132 = .ok (.aload_n 0, 1) := by decide +kernel
theorem dX11_init_133 : decode cX11_init 133 = .ok (.bipush 120, 2) := by decide +kernel
theorem dX11_init_135 : decode cX11_init 135 = .ok (.newarray .int, 2) := by decide +kernel
theorem dX11_init_137 : decode cX11_init 137 = .ok (.putfield 59, 3) := by decide +kernel
theorem dX11_init_140 : decode cX11_init 140 = .ok (.aload_n 0, 1) := by decide +kernel
theorem dX11_init_141 : decode cX11_init 141 = .ok (.bipush 16, 2) := by decide +kernel
theorem dX11_init_143 : decode cX11_init 143 = .ok (.newarray .int, 2) := by decide +kernel
theorem dX11_init_145 : decode cX11_init 145 = .ok (.putfield 62, 3) := by decide +kernel
theorem dX11_init_148 : decode cX11_init 148 = .ok (.aload_n 0, 1) := by decide +kernel
theorem dX11_init_149 : decode cX11_init 149 = .ok (.bipush 16, 2) := by decide +kernel
theorem dX11_init_151 : decode cX11_init 151 = .ok (.newarray .int, 2) := by decide +kernel
theorem dX11_init_153 : decode cX11_init 153 = .ok (.putfield 65, 3) := by decide +kernel
theorem dX11_init_156 : decode cX11_init 156 = .ok (.aload_n 0, 1) := by decide +kernel
theorem dX11_init_157 : decode cX11_init 157 = .ok (.bipush 12, 2) := by decide +kernel
theorem dX11_init_159 : decode cX11_init 159 = .ok (.newarray .int, 2) := by decide +kernel
theorem dX11_init_161 : decode cX11_init 161 = .ok (.putfield 68, 3) := by decide +kernel
theorem dX11_init_164 : decode cX11_init 164 = .ok (.aload_n 0, 1) := by decide +kernel
theorem dX11_init_165 : decode cX11_init 165 = .ok (.bipush 12, 2) := by decide +kernel
theorem dX11_init_167 : decode cX11_init 167 = .ok (.newarray .int, 2) := by decide +kernel
theorem dX11_init_169 : decode cX11_init 169 = .ok (.putfield 71, 3) := by decide +kernel
theorem dX11_init_172 : decode cX11_init 172 = .ok (.aload_n 0, 1) := by decide +kernel
theorem dX11_init_173 : decode cX11_init 173 = .ok (.bipush 10, 2) := by decide +kernel
theorem dX11_init_175 : decode cX11_init 175 = .ok (.newarray .int, 2) := by decide +kernel
theorem dX11_init_177 : decode cX11_init 177 = .ok (.putfield 74, 3) := by decide +kernel
theorem dX11_init_180 : decode cX11_init 180 = .ok (.aload_n 0, 1) := by decide +kernel
theorem dX11_init_181 : decode cX11_init 181 = .ok (.bipush 10, 2) := by decide +kernel
theorem dX11_init_183 : decode cX11_init 183 = .ok (.newarray .int, 2) := by decide +kernel
theorem dX11_init_185 : decode cX11_init 185 = .ok (.putfield 77, 3) := by decide +kernel
theorem dX11_init_188 : decode cX11_init 188 = .ok (.aload_n 0, 1) := by decide +kernel
theorem dX11_init_189 : decode cX11_init 189 = .ok (.bipush 10, 2) := by decide +kernel
theorem dX11_init_191 : decode cX11_init 191 = .ok (.newarray .int, 2) := by decide +kernel
theorem dX11_init_193 : decode cX11_init 193 = .ok (.putfield 80, 3) := by decide +kernel
theorem dX11_init_196 : decode cX11_init 196 = .ok (.aload_n 0, 1) := by decide +kernel
theorem dX11_init_197 : decode cX11_init 197 = .ok (.sipush 20000, 3) := by decide +kernel
theorem dX11_init_200 : decode cX11_init 200 = .ok (.newarray .int, 2) := by decide +kernel
theorem dX11_init_202 : decode cX11_init 202 = .ok (.putfield 83, 3) := by decide +kernel
theorem dX11_init_205 : decode cX11_init 205 = .ok (.aload_n 0, 1) := by decide +kernel
theorem dX11_init_206 : decode cX11_init 206 = .ok (.sipush 20000, 3) := by decide +kernel
theorem dX11_init_209 : decode cX11_init 209 = .ok (.newarray .int, 2) := by decide +kernel
theorem dX11_init_211 : decode cX11_init 211 = .ok (.putfield 86, 3) := by decide +kernel
theorem dX11_init_214 : decode cX11_init 214 = .ok (.aload_n 0, 1) := by decide +kernel
theorem dX11_init_215 : decode cX11_init 215 = .ok (.sipush 20000, 3) := by decide +kernel
theorem dX11_init_218 : decode cX11_init 218 = .ok (.newarray .int, 2) := by decide +kernel
theorem dX11_init_220 : decode cX11_init 220 = .ok (.putfield 89, 3) := by decide +kernel
theorem dX11_init_223 : decode cX11_init 223 = .ok (.aload_n 0, 1) := by decide +kernel
theorem dX11_init_224 : decode cX11_init 224 = .ok (.sipush 1500, 3) := by decide +kernel
theorem dX11_init_227 : decode cX11_init 227 = .ok (.newarray .int, 2) := by decide +kernel
theorem dX11_init_229 : decode cX11_init 229 = .ok (.putfield 92, 3) := by decide +kernel
theorem dX11_init_232 : decode cX11_init 232 = .ok (.aload_n 0, 1) := by decide +kernel
theorem dX11_init_233 : decode cX11_init 233 = .ok (.bipush 12, 2) := by decide +kernel
theorem dX11_init_235 : decode cX11_init 235 = .ok (.newarray .int, 2) := by decide +kernel
theorem dX11_init_237 : decode cX11_init 237 = .ok (.putfield 95, 3) := by decide +kernel
theorem dX11_init_240 : decode cX11_init 240 = .ok (.aload_n 0, 1) := by decide +kernel
theorem dX11_init_241 : decode cX11_init 241 = .ok (.sipush 20000, 3) := by decide +kernel
theorem dX11_init_244 : decode cX11_init 244 = .ok (.newarray .int, 2) := by decide +kernel
theorem dX11_init_246 : decode cX11_init 246 = .ok (.putfield 98, 3) := by decide +kernel
theorem dX11_init_249 : decode cX11_init 249 = .ok (.iconst 0, 1) := by decide +kernel
theorem dX11_init_250 : decode cX11_init 250 = .ok (.istore_n 1, 1) := by decide +kernel
theorem dX11_init_251 : decode cX11_init 251 = .ok (.iload_n 1, 1) := by decide +kernel
theorem dX11_init_252 : decode cX11_init 252 = .ok (.bipush 12, 2) := by decide +kernel
theorem dX11_init_254 : decode cX11_init 254 = .ok (.if_icmp .ge 25, 3) := by decide +kernel
theorem dX11_init_257 : decode cX11_init 257 = .ok (.aload_n 0, 1) := by decide +kernel
theorem dX11_init_258 : decode cX11_init 258 = .ok (.getfield 68, 3) := by decide +kernel
theorem dX11_init_261 : decode cX11_init 261 = .ok (.iload_n 1, 1) := by decide +kernel
theorem dX11_init_262 : decode cX11_init 262 = .ok (.iconst 2, 1) := by decide +kernel
theorem dX11_init_263 : decode cX11_init 263 = .ok (.iastore, 1) := by decide +kernel
theorem dX11_init_264 : decode cX11_init 264 = .ok (.aload_n 0, 1) := by decide +kernel
theorem dX11_init_265 : decode cX11_init 265 = .ok (.getfield 71, 3) := by decide +kernel
theorem dX11_init_268 : decode cX11_init 268 = .ok (.iload_n 1, 1) := by decide +kernel
theorem dX11_init_269 : decode cX11_init 269 = .ok (.sipush 2001, 3) := by decide +kernel
theorem dX11_init_272 : decode cX11_init 272 = .ok (.iastore, 1) := by decide +kernel
theorem dX11_init_273 : decode cX11_init 273 = .ok (.iinc 1 1, 3) := by decide +kernel
theorem dX11_init_276 : decode cX11_init 276 = .ok (.goto (-25), 3) := by decide +kernel
theorem dX11_init_279 : decode cX11_init 279 = .ok (.iconst 0, 1) := by decide +kernel
theorem dX11_init_280 : decode cX11_init 280 = .ok (.istore_n 1, 1) := by decide +kernel
theorem dX11_init_281 : decode cX11_init 281 = .ok (.iload_n 1, 1) := by decide +kernel
theorem dX11_init_282 : decode cX11_init 282 = .ok (.iconst 3, 1) := by decide +kernel
theorem dX11_init_283 : decode cX11_init 283 = .ok (.if_icmp .ge 17, 3) := by decide +kernel
theorem dX11_init_286 : decode cX11_init 286 = .ok (.aload_n 0, 1) := by decide +kernel
theorem dX11_init_287 : decode cX11_init 287 = .ok (.getfield 35, 3) := by decide +kernel
theorem dX11_init_290 : decode cX11_init 290 = .ok (.iload_n 1, 1) := by decide +kernel
theorem dX11_init_291 : decode cX11_init 291 = .ok (.bipush 100, 2) := by decide +kernel
theorem dX11_init_293 : decode cX11_init 293 = .ok (.iastore, 1) := by decide +kernel
theorem dX11_init_294 : decode cX11_init 294 = .ok (.iinc 1 1, 3) := by decide +kernel
theorem dX11_init_297 : decode cX11_init 297 = .ok (.goto (-16), 3) := by decide +kernel
theorem dX11_init_300 : decode cX11_init 300 = .ok (.return_, 1) := by decide +kernel
theorem dX11_thrown_0 : decode cX11_thrown 0 = .ok (.aload_n 0, 1) := by decide +kernel
theorem dX11_thrown_1 : decode cX11_thrown 1 = .ok (.getfield 101, 3) := by decide +kernel
theorem dX11_thrown_4 : decode cX11_thrown 4 = .ok (.ireturn, 1) := by decide +kernel
theorem dX11_in_0 : decode cX11_in 0 = .ok (.iload_n 0, 1) := by decide +kernel
theorem dX11_in_1 : decode cX11_in 1 = .ok (.iload_n 1, 1) := by decide +kernel
theorem dX11_in_2 : decode cX11_in 2 = .ok (.if_icmp .lt 12, 3) := by decide +kernel
theorem dX11_in_5 : decode cX11_in 5 = .ok (.iload_n 0, 1) := by decide +kernel
theorem dX11_in_6 : decode cX11_in 6 = .ok (.iload_n 2, 1) := by decide +kernel
theorem dX11_in_7 : decode cX11_in 7 = .ok (.if_icmp .gt 7, 3) := by decide +kernel
theorem dX11_in_10 : decode cX11_in 10 = .ok (.iconst 1, 1) := by decide +kernel
theorem dX11_in_11 : decode cX11_in 11 = .ok (.goto 4, 3) := by decide +kernel
theorem dX11_in_14 : decode cX11_in 14 = .ok (.iconst 0, 1) := by decide +kernel
theorem dX11_in_15 : decode cX11_in 15 = .ok (.ireturn, 1) := by decide +kernel
theorem dX11_isMachine_0 : decode cX11_isMachine 0 = .ok (.iload_n 0, 1) := by decide +kernel
theorem dX11_isMachine_1 : decode cX11_isMachine 1 = .ok (.iconst 0, 1) := by decide +kernel
theorem dX11_isMachine_2 : decode cX11_isMachine 2 = .ok (.iconst 2, 1) := by decide +kernel
theorem dX11_isMachine_3 : decode cX11_isMachine 3 = .ok (.invokestatic 105, 3) := by decide +kernel
theorem dX11_isMachine_6 : decode cX11_isMachine 6 = .ok (.ireturn, 1) := by decide +kernel
theorem dX11_isFile_0 : decode cX11_isFile 0 = .ok (.iload_n 0, 1) := by decide +kernel
theorem dX11_isFile_1 : decode cX11_isFile 1 = .ok (.iconst 0, 1) := by decide +kernel
theorem dX11_isFile_2 : decode cX11_isFile 2 = .ok (.bipush 15, 2) := by decide +kernel
theorem dX11_isFile_4 : decode cX11_isFile 4 = .ok (.invokestatic 105, 3) := by decide +kernel
theorem dX11_isFile_7 : decode cX11_isFile 7 = .ok (.ireturn, 1) := by decide +kernel
theorem dX11_lengthOf_0 : decode cX11_lengthOf 0 = .ok (.iconst (-1), 1) := by decide +kernel
theorem dX11_lengthOf_1 : decode cX11_lengthOf 1 = .ok (.istore_n 2, 1) := by decide +kernel
theorem dX11_lengthOf_2 : decode cX11_lengthOf 2 = .ok (.lload_n 0, 1) := by decide +kernel
theorem dX11_lengthOf_3 : decode cX11_lengthOf 3 = .ok (.lstore_n 3, 1) := by decide +kernel
theorem dX11_lengthOf_4 : decode cX11_lengthOf 4 = .ok (.lload_n 3, 1) := by decide +kernel
theorem dX11_lengthOf_5 : decode cX11_lengthOf 5 = .ok (.lconst 0, 1) := by decide +kernel
theorem dX11_lengthOf_6 : decode cX11_lengthOf 6 = .ok (.lcmp, 1) := by decide +kernel
theorem dX11_lengthOf_7 : decode cX11_lengthOf 7 = .ok (.ifCond .le 15, 3) := by decide +kernel
theorem dX11_lengthOf_10 : decode cX11_lengthOf 10 = .ok (.iinc 2 1, 3) := by decide +kernel
theorem dX11_lengthOf_13 : decode cX11_lengthOf 13 = .ok (.lload_n 3, 1) := by decide +kernel
theorem dX11_lengthOf_14 : decode cX11_lengthOf 14 = .ok (.ldc2_w 109, 3) := by decide +kernel
theorem dX11_lengthOf_17 : decode cX11_lengthOf 17 = .ok (.ldiv, 1) := by decide +kernel
theorem dX11_lengthOf_18 : decode cX11_lengthOf 18 = .ok (.lstore_n 3, 1) := by decide +kernel
theorem dX11_lengthOf_19 : decode cX11_lengthOf 19 = .ok (.goto (-15), 3) := by decide +kernel
theorem dX11_lengthOf_22 : decode cX11_lengthOf 22 = .ok (.iload_n 2, 1) := by decide +kernel
theorem dX11_lengthOf_23 : decode cX11_lengthOf 23 = .ok (.ifCond .ge 7, 3) := by decide +kernel
theorem dX11_lengthOf_26 : decode cX11_lengthOf 26 = .ok (.iconst 0, 1) := by decide +kernel
theorem dX11_lengthOf_27 : decode cX11_lengthOf 27 = .ok (.goto 4, 3) := by decide +kernel
theorem dX11_lengthOf_30 : decode cX11_lengthOf 30 = .ok (.iload_n 2, 1) := by decide +kernel
theorem dX11_lengthOf_31 : decode cX11_lengthOf 31 = .ok (.ireturn, 1) := by decide +kernel
theorem dX11_figure_0 : decode cX11_figure 0 = .ok (.lload_n 0, 1) := by decide +kernel
theorem dX11_figure_1 : decode cX11_figure 1 = .ok (.lstore_n 3, 1) := by decide +kernel
theorem dX11_figure_2 : decode cX11_figure 2 = .ok (.lload_n 0, 1) := by decide +kernel
theorem dX11_figure_3 : decode cX11_figure 3 = .ok (.invokestatic 111, 3) := by decide +kernel
theorem dX11_figure_6 : decode cX11_figure 6 = .ok (.iconst 1, 1) := by decide +kernel
theorem dX11_figure_7 : decode cX11_figure 7 = .ok (.isub, 1) := by decide +kernel
theorem dX11_figure_8 : decode cX11_figure 8 = .ok (.istore 5, 2) := by decide +kernel
theorem dX11_figure_10 : decode cX11_figure 10 = .ok (.iload 5, 2) := by decide +kernel
theorem dX11_figure_12 : decode cX11_figure 12 = .ok (.iload_n 2, 1) := by decide +kernel
theorem dX11_figure_13 : decode cX11_figure 13 = .ok (.if_icmp .le 15, 3) := by decide +kernel
theorem dX11_figure_16 : decode cX11_figure 16 = .ok (.lload_n 3, 1) := by decide +kernel
theorem dX11_figure_17 : decode cX11_figure 17 = .ok (.ldc2_w 109, 3) := by decide +kernel
theorem dX11_figure_20 : decode cX11_figure 20 = .ok (.ldiv, 1) := by decide +kernel
theorem dX11_figure_21 : decode cX11_figure 21 = .ok (.lstore_n 3, 1) := by decide +kernel
theorem dX11_figure_22 : decode cX11_figure 22 = .ok (.iinc 5 (-1), 3) := by decide +kernel
theorem dX11_figure_25 : decode cX11_figure 25 = .ok (.goto (-15), 3) := by decide +kernel
theorem dX11_figure_28 : decode cX11_figure 28 = .ok (.lload_n 3, 1) := by decide +kernel
theorem dX11_figure_29 : decode cX11_figure 29 = .ok (.ldc2_w 109, 3) := by decide +kernel
theorem dX11_figure_32 : decode cX11_figure 32 = .ok (.lrem, 1) := by decide +kernel
theorem dX11_figure_33 : decode cX11_figure 33 = .ok (.l2i, 1) := by decide +kernel
theorem dX11_figure_34 : decode cX11_figure 34 = .ok (.ireturn, 1) := by decide +kernel
theorem dX11_cuts_0 : decode cX11_cuts 0 = .ok (.iconst 0, 1) := by decide +kernel
theorem dX11_cuts_1 : decode cX11_cuts 1 = .ok (.istore_n 3, 1) := by decide +kernel
theorem dX11_cuts_2 : decode cX11_cuts 2 = .ok (.iconst 1, 1) := by decide +kernel
theorem dX11_cuts_3 : decode cX11_cuts 3 = .ok (.istore 4, 2) := by decide +kernel
theorem dX11_cuts_5 : decode cX11_cuts 5 = .ok (.iconst 0, 1) := by decide +kernel
theorem dX11_cuts_6 : decode cX11_cuts 6 = .ok (.istore 5, 2) := by decide +kernel
theorem dX11_cuts_8 : decode cX11_cuts 8 = .ok (.iload 5, 2) := by decide +kernel
theorem dX11_cuts_10 : decode cX11_cuts 10 = .ok (.lload_n 1, 1) := by decide +kernel
theorem dX11_cuts_11 : decode cX11_cuts 11 = .ok (.invokestatic 111, 3) := by decide +kernel
theorem dX11_cuts_14 : decode cX11_cuts 14 = .ok (.if_icmp .ge 65, 3) := by decide +kernel
theorem dX11_cuts_17 : decode cX11_cuts 17 = .ok (.lload_n 1, 1) := by decide +kernel
theorem dX11_cuts_18 : decode cX11_cuts 18 = .ok (.iload 5, 2) := by decide +kernel
theorem dX11_cuts_20 : decode cX11_cuts 20 = .ok (.invokestatic 115, 3) := by decide +kernel
theorem dX11_cuts_23 : decode cX11_cuts 23 = .ok (.istore 6, 2) := by decide +kernel
theorem dX11_cuts_25 : decode cX11_cuts 25 = .ok (.bipush 10, 2) := by decide +kernel
theorem dX11_cuts_27 : decode cX11_cuts 27 = .ok (.iload 4, 2) := by decide +kernel
theorem dX11_cuts_29 : decode cX11_cuts 29 = .ok (.imul, 1) := by decide +kernel
theorem dX11_cuts_30 : decode cX11_cuts 30 = .ok (.iload 6, 2) := by decide +kernel
theorem dX11_cuts_32 : decode cX11_cuts 32 = .ok (.iadd, 1) := by decide +kernel
theorem dX11_cuts_33 : decode cX11_cuts 33 = .ok (.istore 4, 2) := by decide +kernel
theorem dX11_cuts_35 : decode cX11_cuts 35 = .ok (.iload 6, 2) := by decide +kernel
theorem dX11_cuts_37 : decode cX11_cuts 37 = .ok (.ifCond .eq 22, 3) := by decide +kernel
theorem dX11_cuts_40 : decode cX11_cuts 40 = .ok (.iload 4, 2) := by decide +kernel
theorem dX11_cuts_42 : decode cX11_cuts 42 = .ok (.sipush 10000, 3) := by decide +kernel
theorem dX11_cuts_45 : decode cX11_cuts 45 = .ok (.if_icmp .ge 14, 3) := by decide +kernel
theorem dX11_cuts_48 : decode cX11_cuts 48 = .ok (.iload 5, 2) := by decide +kernel
theorem dX11_cuts_50 : decode cX11_cuts 50 = .ok (.lload_n 1, 1) := by decide +kernel
theorem dX11_cuts_51 : decode cX11_cuts 51 = .ok (.invokestatic 111, 3) := by decide +kernel
theorem dX11_cuts_54 : decode cX11_cuts 54 = .ok (.iconst 1, 1) := by decide +kernel
theorem dX11_cuts_55 : decode cX11_cuts 55 = .ok (.isub, 1) := by decide +kernel
theorem dX11_cuts_56 : decode cX11_cuts 56 = .ok (.if_icmp .ne 17, 3) := by decide +kernel
theorem dX11_cuts_59 : decode cX11_cuts 59 = .ok (.aload_n 0, 1) := by decide +kernel
theorem dX11_cuts_60 : decode cX11_cuts 60 = .ok (.getfield 95, 3) := by decide +kernel
theorem dX11_cuts_63 : decode cX11_cuts 63 = .ok (.iload_n 3, 1) := by decide +kernel
theorem dX11_cuts_64 : decode cX11_cuts 64 = .ok (.iload 4, 2) := by decide +kernel
theorem dX11_cuts_66 : decode cX11_cuts 66 = .ok (.iastore, 1) := by decide +kernel
theorem dX11_cuts_67 : decode cX11_cuts 67 = .ok (.iinc 3 1, 3) := by decide +kernel
theorem dX11_cuts_70 : decode cX11_cuts 70 = .ok (.iconst 1, 1) := by decide +kernel
theorem dX11_cuts_71 : decode cX11_cuts 71 = .ok (.istore 4, 2) := by decide +kernel
theorem dX11_cuts_73 : decode cX11_cuts 73 = .ok (.iinc 5 1, 3) := by decide +kernel
theorem dX11_cuts_76 : decode cX11_cuts 76 = .ok (.goto (-68), 3) := by decide +kernel
theorem dX11_cuts_79 : decode cX11_cuts 79 = .ok (.iload_n 3, 1) := by decide +kernel
theorem dX11_cuts_80 : decode cX11_cuts 80 = .ok (.ireturn, 1) := by decide +kernel
theorem dX11_draft_0 : decode cX11_draft 0 = .ok (.aload_n 0, 1) := by decide +kernel
theorem dX11_draft_1 : decode cX11_draft 1 = .ok (.iload_n 1, 1) := by decide +kernel
theorem dX11_draft_2 : decode cX11_draft 2 = .ok (.iconst 0, 1) := by decide +kernel
theorem dX11_draft_3 : decode cX11_draft 3 = .ok (.bipush 9, 2) := by decide +kernel
theorem dX11_draft_5 : decode cX11_draft 5 = .ok (.invokestatic 105, 3) := by decide +kernel
theorem dX11_draft_8 : decode cX11_draft 8 = .ok (.ifCond .ne 7, 3) := by decide +kernel
theorem dX11_draft_11 : decode cX11_draft 11 = .ok (.iconst 1, 1) := by decide +kernel
theorem dX11_draft_12 : decode cX11_draft 12 = .ok (.goto 20, 3) := by decide +kernel
theorem dX11_draft_15 : decode cX11_draft 15 = .ok (.aload_n 0, 1) := by decide +kernel
theorem dX11_draft_16 : decode cX11_draft 16 = .ok (.getfield 119, 3) := by decide +kernel
theorem dX11_draft_19 : decode cX11_draft 19 = .ok (.invokestatic 111, 3) := by decide +kernel
theorem dX11_draft_22 : decode cX11_draft 22 = .ok (.bipush 12, 2) := by decide +kernel
theorem dX11_draft_24 : decode cX11_draft 24 = .ok (.if_icmp .ne 7, 3) := by decide +kernel
theorem dX11_draft_27 : decode cX11_draft 27 = .ok (.iconst 2, 1) := by decide +kernel
theorem dX11_draft_28 : decode cX11_draft 28 = .ok (.goto 4, 3) := by decide +kernel
theorem dX11_draft_31 : decode cX11_draft 31 = .ok (.iconst 0, 1) := by decide +kernel
theorem dX11_draft_32 : decode cX11_draft 32 = .ok (.putfield 101, 3) := by decide +kernel
theorem dX11_draft_35 : decode cX11_draft 35 = .ok (.aload_n 0, 1) := by decide +kernel
theorem dX11_draft_36 : decode cX11_draft 36 = .ok (.getfield 101, 3) := by decide +kernel
theorem dX11_draft_39 : decode cX11_draft 39 = .ok (.ifCond .le 5, 3) := by decide +kernel
theorem dX11_draft_42 : decode cX11_draft 42 = .ok (.iconst 0, 1) := by decide +kernel
theorem dX11_draft_43 : decode cX11_draft 43 = .ok (.ireturn, 1) := by decide +kernel
theorem dX11_draft_44 : decode cX11_draft 44 = .ok (.aload_n 0, 1) := by decide +kernel
theorem dX11_draft_45 : decode cX11_draft 45 = .ok (.aload_n 0, 1) := by decide +kernel
theorem dX11_draft_46 : decode cX11_draft 46 = .ok (.getfield 119, 3) := by decide +kernel
theorem dX11_draft_49 : decode cX11_draft 49 = .ok (.lconst 0, 1) := by decide +kernel
theorem dX11_draft_50 : decode cX11_draft 50 = .ok (.lcmp, 1) := by decide +kernel
theorem dX11_draft_51 : decode cX11_draft 51 = .ok (.ifCond .ne 9, 3) := by decide +kernel
theorem dX11_draft_54 : decode cX11_draft 54 = .ok (.ldc2_w 109, 3) := by decide +kernel
theorem dX11_draft_57 : decode cX11_draft 57 = .ok (.goto 11, 3) := by decide +kernel
theorem dX11_draft_60 : decode cX11_draft 60 = .ok (.ldc2_w 109, 3) := by decide +kernel
theorem dX11_draft_63 : decode cX11_draft 63 = .ok (.aload_n 0, 1) := by decide +kernel
theorem dX11_draft_64 : decode cX11_draft 64 = .ok (.getfield 119, 3) := by decide +kernel
theorem dX11_draft_67 : decode cX11_draft 67 = .ok (.lmul, 1) := by decide +kernel
theorem dX11_draft_68 : decode cX11_draft 68 = .ok (.iload_n 1, 1) := by decide +kernel
theorem dX11_draft_69 : decode cX11_draft 69 = .ok (.i2l, 1) := by decide +kernel
theorem dX11_draft_70 : decode cX11_draft 70 = .ok (.ladd, 1) := by decide +kernel
theorem dX11_draft_71 : decode cX11_draft 71 = .ok (.putfield 119, 3) := by decide +kernel
theorem dX11_draft_74 : decode cX11_draft 74 = .ok (.aload_n 0, 1) := by decide +kernel
theorem dX11_draft_75 : decode cX11_draft 75 = .ok (.getfield 119, 3) := by decide +kernel
theorem dX11_draft_78 : decode cX11_draft 78 = .ok (.invokestatic 111, 3) := by decide +kernel
theorem dX11_draft_81 : decode cX11_draft 81 = .ok (.ireturn, 1) := by decide +kernel
theorem dX11_notes_0 : decode cX11_notes 0 = .ok (.aload_n 0, 1) := by decide +kernel
theorem dX11_notes_1 : decode cX11_notes 1 = .ok (.getfield 29, 3) := by decide +kernel
theorem dX11_notes_4 : decode cX11_notes 4 = .ok (.iload_n 1, 1) := by decide +kernel
theorem dX11_notes_5 : decode cX11_notes 5 = .ok (.iaload, 1) := by decide +kernel
theorem dX11_notes_6 : decode cX11_notes 6 = .ok (.ifCond .ne 23, 3) := by decide +kernel
theorem dX11_notes_9 : decode cX11_notes 9 = .ok (.aload_n 0, 1) := by decide +kernel
theorem dX11_notes_10 : decode cX11_notes 10 = .ok (.dup, 1) := by decide +kernel
theorem dX11_notes_11 : decode cX11_notes 11 = .ok (.getfield 123, 3) := by decide +kernel
theorem dX11_notes_14 : decode cX11_notes 14 = .ok (.iconst 1, 1) := by decide +kernel
theorem dX11_notes_15 : decode cX11_notes 15 = .ok (.iadd, 1) := by decide +kernel
theorem dX11_notes_16 : decode cX11_notes 16 = .ok (.putfield 123, 3) := by decide +kernel
theorem dX11_notes_19 : decode cX11_notes 19 = .ok (.aload_n 0, 1) := by decide +kernel
theorem dX11_notes_20 : decode cX11_notes 20 = .ok (.getfield 29, 3) := by decide +kernel
theorem dX11_notes_23 : decode cX11_notes 23 = .ok (.iload_n 1, 1) := by decide +kernel
theorem dX11_notes_24 : decode cX11_notes 24 = .ok (.aload_n 0, 1) := by decide +kernel
theorem dX11_notes_25 : decode cX11_notes 25 = .ok (.getfield 123, 3) := by decide +kernel
theorem dX11_notes_28 : decode cX11_notes 28 = .ok (.iastore, 1) := by decide +kernel
theorem dX11_notes_29 : decode cX11_notes 29 = .ok (.return_, 1) := by decide +kernel
theorem dX11_edits_0 : decode cX11_edits 0 = .ok (.aload_n 0, 1) := by decide +kernel
theorem dX11_edits_1 : decode cX11_edits 1 = .ok (.getfield 32, 3) := by decide +kernel
theorem dX11_edits_4 : decode cX11_edits 4 = .ok (.iload_n 1, 1) := by decide +kernel
theorem dX11_edits_5 : decode cX11_edits 5 = .ok (.bipush 16, 2) := by decide +kernel
theorem dX11_edits_7 : decode cX11_edits 7 = .ok (.idiv, 1) := by decide +kernel
theorem dX11_edits_8 : decode cX11_edits 8 = .ok (.iaload, 1) := by decide +kernel
theorem dX11_edits_9 : decode cX11_edits 9 = .ok (.ifCond .ne 11, 3) := by decide +kernel
theorem dX11_edits_12 : decode cX11_edits 12 = .ok (.aload_n 0, 1) := by decide +kernel
theorem dX11_edits_13 : decode cX11_edits 13 = .ok (.iload_n 1, 1) := by decide +kernel
theorem dX11_edits_14 : decode cX11_edits 14 = .ok (.invokevirtual 126, 3) := by decide +kernel
theorem dX11_edits_17 : decode cX11_edits 17 = .ok (.goto 46, 3) := by decide +kernel
theorem dX11_edits_20 : decode cX11_edits 20 = .ok (.aload_n 0, 1) := by decide +kernel
theorem dX11_edits_21 : decode cX11_edits 21 = .ok (.getfield 38, 3) := by decide +kernel
theorem dX11_edits_24 : decode cX11_edits 24 = .ok (.aload_n 0, 1) := by decide +kernel
theorem dX11_edits_25 : decode cX11_edits 25 = .ok (.getfield 129, 3) := by decide +kernel
theorem dX11_edits_28 : decode cX11_edits 28 = .ok (.iload_n 1, 1) := by decide +kernel
theorem dX11_edits_29 : decode cX11_edits 29 = .ok (.iastore, 1) := by decide +kernel
theorem dX11_edits_30 : decode cX11_edits 30 = .ok (.aload_n 0, 1) := by decide +kernel
theorem dX11_edits_31 : decode cX11_edits 31 = .ok (.getfield 41, 3) := by decide +kernel
theorem dX11_edits_34 : decode cX11_edits 34 = .ok (.aload_n 0, 1) := by decide +kernel
theorem dX11_edits_35 : decode cX11_edits 35 = .ok (.getfield 129, 3) := by decide +kernel
theorem dX11_edits_38 : decode cX11_edits 38 = .ok (.aload_n 0, 1) := by decide +kernel
theorem dX11_edits_39 : decode cX11_edits 39 = .ok (.getfield 132, 3) := by decide +kernel
theorem dX11_edits_42 : decode cX11_edits 42 = .ok (.aload_n 0, 1) := by decide +kernel
theorem dX11_edits_43 : decode cX11_edits 43 = .ok (.getfield 32, 3) := by decide +kernel
theorem dX11_edits_46 : decode cX11_edits 46 = .ok (.iload_n 1, 1) := by decide +kernel
theorem dX11_edits_47 : decode cX11_edits 47 = .ok (.bipush 16, 2) := by decide +kernel
theorem dX11_edits_49 : decode cX11_edits 49 = .ok (.idiv, 1) := by decide +kernel
theorem dX11_edits_50 : decode cX11_edits 50 = .ok (.iaload, 1) := by decide +kernel
theorem dX11_edits_51 : decode cX11_edits 51 = .ok (.iadd, 1) := by decide +kernel
theorem dX11_edits_52 : decode cX11_edits 52 = .ok (.iastore, 1) := by decide +kernel
theorem dX11_edits_53 : decode cX11_edits 53 = .ok (.aload_n 0, 1) := by decide +kernel
theorem dX11_edits_54 : decode cX11_edits 54 = .ok (.dup, 1) := by decide +kernel
theorem dX11_edits_55 : decode cX11_edits 55 = .ok (.getfield 129, 3) := by decide +kernel
theorem dX11_edits_58 : decode cX11_edits 58 = .ok (.iconst 1, 1) := by decide +kernel
theorem dX11_edits_59 : decode cX11_edits 59 = .ok (.iadd, 1) := by decide +kernel
theorem dX11_edits_60 : decode cX11_edits 60 = .ok (.putfield 129, 3) := by decide +kernel
theorem dX11_edits_63 : decode cX11_edits 63 = .ok (.return_, 1) := by decide +kernel
theorem dX11_write_0 : decode cX11_write 0 = .ok (.aload_n 0, 1) := by decide +kernel
theorem dX11_write_1 : decode cX11_write 1 = .ok (.iload_n 1, 1) := by decide +kernel
theorem dX11_write_2 : decode cX11_write 2 = .ok (.invokestatic 135, 3) := by decide +kernel
theorem dX11_write_5 : decode cX11_write 5 = .ok (.ifCond .eq 10, 3) := by decide +kernel
theorem dX11_write_8 : decode cX11_write 8 = .ok (.iload_n 2, 1) := by decide +kernel
theorem dX11_write_9 : decode cX11_write 9 = .ok (.invokestatic 139, 3) := by decide +kernel
theorem dX11_write_12 : decode cX11_write 12 = .ok (.ifCond .ne 7, 3) := by decide +kernel
theorem dX11_write_15 : decode cX11_write 15 = .ok (.iconst 1, 1) := by decide +kernel
theorem dX11_write_16 : decode cX11_write 16 = .ok (.goto 17, 3) := by decide +kernel
theorem dX11_write_19 : decode cX11_write 19 = .ok (.aload_n 0, 1) := by decide +kernel
theorem dX11_write_20 : decode cX11_write 20 = .ok (.getfield 119, 3) := by decide +kernel
theorem dX11_write_23 : decode cX11_write 23 = .ok (.lconst 0, 1) := by decide +kernel
theorem dX11_write_24 : decode cX11_write 24 = .ok (.lcmp, 1) := by decide +kernel
theorem dX11_write_25 : decode cX11_write 25 = .ok (.ifCond .ne 7, 3) := by decide +kernel
theorem dX11_write_28 : decode cX11_write 28 = .ok (.iconst 2, 1) := by decide +kernel
theorem dX11_write_29 : decode cX11_write 29 = .ok (.goto 4, 3) := by decide +kernel
theorem dX11_write_32 : decode cX11_write 32 = .ok (.iconst 0, 1) := by decide +kernel
theorem dX11_write_33 : decode cX11_write 33 = .ok (.putfield 101, 3) := by decide +kernel
theorem dX11_write_36 : decode cX11_write 36 = .ok (.aload_n 0, 1) := by decide +kernel
theorem dX11_write_37 : decode cX11_write 37 = .ok (.getfield 101, 3) := by decide +kernel
theorem dX11_write_40 : decode cX11_write 40 = .ok (.ifCond .le 5, 3) := by decide +kernel
theorem dX11_write_43 : decode cX11_write 43 = .ok (.iconst 0, 1) := by decide +kernel
theorem dX11_write_44 : decode cX11_write 44 = .ok (.ireturn, 1) := by decide +kernel
theorem dX11_write_45 : decode cX11_write 45 = .ok (.bipush 16, 2) := by decide +kernel
theorem dX11_write_47 : decode cX11_write 47 = .ok (.iload_n 1, 1) := by decide +kernel
theorem dX11_write_48 : decode cX11_write 48 = .ok (.imul, 1) := by decide +kernel
theorem dX11_write_49 : decode cX11_write 49 = .ok (.iload_n 2, 1) := by decide +kernel
theorem dX11_write_50 : decode cX11_write 50 = .ok (.iadd, 1) := by decide +kernel
theorem dX11_write_51 : decode cX11_write 51 = .ok (.istore_n 3, 1) := by decide +kernel
theorem dX11_write_52 : decode cX11_write 52 = .ok (.aload_n 0, 1) := by decide +kernel
theorem dX11_write_53 : decode cX11_write 53 = .ok (.getfield 17, 3) := by decide +kernel
theorem dX11_write_56 : decode cX11_write 56 = .ok (.iload_n 3, 1) := by decide +kernel
theorem dX11_write_57 : decode cX11_write 57 = .ok (.aload_n 0, 1) := by decide +kernel
theorem dX11_write_58 : decode cX11_write 58 = .ok (.getfield 7, 3) := by decide +kernel
theorem dX11_write_61 : decode cX11_write 61 = .ok (.iload_n 3, 1) := by decide +kernel
theorem dX11_write_62 : decode cX11_write 62 = .ok (.iaload, 1) := by decide +kernel
theorem dX11_write_63 : decode cX11_write 63 = .ok (.ifCond .ne 9, 3) := by decide +kernel
theorem dX11_write_66 : decode cX11_write 66 = .ok (.iload_n 2, 1) := by decide +kernel
theorem dX11_write_67 : decode cX11_write 67 = .ok (.iconst 4, 1) := by decide +kernel
theorem dX11_write_68 : decode cX11_write 68 = .ok (.irem, 1) := by decide +kernel
theorem dX11_write_69 : decode cX11_write 69 = .ok (.goto 9, 3) := by decide +kernel
theorem dX11_write_72 : decode cX11_write 72 = .ok (.aload_n 0, 1) := by decide +kernel
theorem dX11_write_73 : decode cX11_write 73 = .ok (.getfield 17, 3) := by decide +kernel
theorem dX11_write_76 : decode cX11_write 76 = .ok (.iload_n 3, 1) := by decide +kernel
theorem dX11_write_77 : decode cX11_write 77 = .ok (.iaload, 1) := by decide +kernel
theorem dX11_write_78 : decode cX11_write 78 = .ok (.iastore, 1) := by decide +kernel
theorem dX11_write_79 : decode cX11_write 79 = .ok (.aload_n 0, 1) := by decide +kernel
theorem dX11_write_80 : decode cX11_write 80 = .ok (.getfield 7, 3) := by decide +kernel
theorem dX11_write_83 : decode cX11_write 83 = .ok (.iload_n 3, 1) := by decide +kernel
theorem dX11_write_84 : decode cX11_write 84 = .ok (.iconst 2, 1) := by decide +kernel
theorem dX11_write_85 : decode cX11_write 85 = .ok (.iastore, 1) := by decide +kernel
theorem dX11_write_86 : decode cX11_write 86 = .ok (.aload_n 0, 1) := by decide +kernel
theorem dX11_write_87 : decode cX11_write 87 = .ok (.getfield 13, 3) := by decide +kernel
theorem dX11_write_90 : decode cX11_write 90 = .ok (.iload_n 3, 1) := by decide +kernel
theorem dX11_write_91 : decode cX11_write 91 = .ok (.aload_n 0, 1) := by decide +kernel
theorem dX11_write_92 : decode cX11_write 92 = .ok (.getfield 119, 3) := by decide +kernel
theorem dX11_write_95 : decode cX11_write 95 = .ok (.lastore, 1) := by decide +kernel
theorem dX11_write_96 : decode cX11_write 96 = .ok (.aload_n 0, 1) := by decide +kernel
theorem dX11_write_97 : decode cX11_write 97 = .ok (.lconst 0, 1) := by decide +kernel
theorem dX11_write_98 : decode cX11_write 98 = .ok (.putfield 119, 3) := by decide +kernel
theorem dX11_write_101 : decode cX11_write 101 = .ok (.aload_n 0, 1) := by decide +kernel
theorem dX11_write_102 : decode cX11_write 102 = .ok (.iload_n 3, 1) := by decide +kernel
theorem dX11_write_103 : decode cX11_write 103 = .ok (.invokevirtual 142, 3) := by decide +kernel
theorem dX11_write_106 : decode cX11_write 106 = .ok (.aload_n 0, 1) := by decide +kernel
theorem dX11_write_107 : decode cX11_write 107 = .ok (.getfield 13, 3) := by decide +kernel
theorem dX11_write_110 : decode cX11_write 110 = .ok (.iload_n 3, 1) := by decide +kernel
theorem dX11_write_111 : decode cX11_write 111 = .ok (.laload, 1) := by decide +kernel
theorem dX11_write_112 : decode cX11_write 112 = .ok (.invokestatic 111, 3) := by decide +kernel
theorem dX11_write_115 : decode cX11_write 115 = .ok (.ireturn, 1) := by decide +kernel
theorem dX11_move_0 : decode cX11_move 0 = .ok (.aload_n 0, 1) := by decide +kernel
theorem dX11_move_1 : decode cX11_move 1 = .ok (.iload_n 1, 1) := by decide +kernel
theorem dX11_move_2 : decode cX11_move 2 = .ok (.invokestatic 135, 3) := by decide +kernel
theorem dX11_move_5 : decode cX11_move 5 = .ok (.ifCond .eq 19, 3) := by decide +kernel
theorem dX11_move_8 : decode cX11_move 8 = .ok (.iload_n 2, 1) := by decide +kernel
theorem dX11_move_9 : decode cX11_move 9 = .ok (.invokestatic 139, 3) := by decide +kernel
theorem dX11_move_12 : decode cX11_move 12 = .ok (.ifCond .eq 12, 3) := by decide +kernel
theorem dX11_move_15 : decode cX11_move 15 = .ok (.iload_n 3, 1) := by decide +kernel
theorem dX11_move_16 : decode cX11_move 16 = .ok (.iconst 0, 1) := by decide +kernel
theorem dX11_move_17 : decode cX11_move 17 = .ok (.iconst 3, 1) := by decide +kernel
theorem dX11_move_18 : decode cX11_move 18 = .ok (.invokestatic 105, 3) := by decide +kernel
theorem dX11_move_21 : decode cX11_move 21 = .ok (.ifCond .ne 7, 3) := by decide +kernel
theorem dX11_move_24 : decode cX11_move 24 = .ok (.iconst 1, 1) := by decide +kernel
theorem dX11_move_25 : decode cX11_move 25 = .ok (.goto 23, 3) := by decide +kernel
theorem dX11_move_28 : decode cX11_move 28 = .ok (.aload_n 0, 1) := by decide +kernel
theorem dX11_move_29 : decode cX11_move 29 = .ok (.getfield 7, 3) := by decide +kernel
theorem dX11_move_32 : decode cX11_move 32 = .ok (.bipush 16, 2) := by decide +kernel
theorem dX11_move_34 : decode cX11_move 34 = .ok (.iload_n 1, 1) := by decide +kernel
theorem dX11_move_35 : decode cX11_move 35 = .ok (.imul, 1) := by decide +kernel
theorem dX11_move_36 : decode cX11_move 36 = .ok (.iload_n 2, 1) := by decide +kernel
theorem dX11_move_37 : decode cX11_move 37 = .ok (.iadd, 1) := by decide +kernel
theorem dX11_move_38 : decode cX11_move 38 = .ok (.iaload, 1) := by decide +kernel
theorem dX11_move_39 : decode cX11_move 39 = .ok (.iconst 2, 1) := by decide +kernel
theorem dX11_move_40 : decode cX11_move 40 = .ok (.if_icmp .eq 7, 3) := by decide +kernel
theorem dX11_move_43 : decode cX11_move 43 = .ok (.iconst 2, 1) := by decide +kernel
theorem dX11_move_44 : decode cX11_move 44 = .ok (.goto 4, 3) := by decide +kernel
theorem dX11_move_47 : decode cX11_move 47 = .ok (.iconst 0, 1) := by decide +kernel
theorem dX11_move_48 : decode cX11_move 48 = .ok (.putfield 101, 3) := by decide +kernel
theorem dX11_move_51 : decode cX11_move 51 = .ok (.aload_n 0, 1) := by decide +kernel
theorem dX11_move_52 : decode cX11_move 52 = .ok (.getfield 101, 3) := by decide +kernel
theorem dX11_move_55 : decode cX11_move 55 = .ok (.ifCond .le 5, 3) := by decide +kernel
theorem dX11_move_58 : decode cX11_move 58 = .ok (.iconst 0, 1) := by decide +kernel
theorem dX11_move_59 : decode cX11_move 59 = .ok (.ireturn, 1) := by decide +kernel
theorem dX11_move_60 : decode cX11_move 60 = .ok (.bipush 16, 2) := by decide +kernel
theorem dX11_move_62 : decode cX11_move 62 = .ok (.iload_n 1, 1) := by decide +kernel
theorem dX11_move_63 : decode cX11_move 63 = .ok (.imul, 1) := by decide +kernel
theorem dX11_move_64 : decode cX11_move 64 = .ok (.iload_n 2, 1) := by decide +kernel
theorem dX11_move_65 : decode cX11_move 65 = .ok (.iadd, 1) := by decide +kernel
theorem dX11_move_66 : decode cX11_move 66 = .ok (.istore 4, 2) := by decide +kernel
theorem dX11_move_68 : decode cX11_move 68 = .ok (.aload_n 0, 1) := by decide +kernel
theorem dX11_move_69 : decode cX11_move 69 = .ok (.getfield 17, 3) := by decide +kernel
theorem dX11_move_72 : decode cX11_move 72 = .ok (.iload 4, 2) := by decide +kernel
theorem dX11_move_74 : decode cX11_move 74 = .ok (.iaload, 1) := by decide +kernel
theorem dX11_move_75 : decode cX11_move 75 = .ok (.istore 5, 2) := by decide +kernel
theorem dX11_move_77 : decode cX11_move 77 = .ok (.aload_n 0, 1) := by decide +kernel
theorem dX11_move_78 : decode cX11_move 78 = .ok (.getfield 17, 3) := by decide +kernel
theorem dX11_move_81 : decode cX11_move 81 = .ok (.iload 4, 2) := by decide +kernel
theorem dX11_move_83 : decode cX11_move 83 = .ok (.iload_n 3, 1) := by decide +kernel
theorem dX11_move_84 : decode cX11_move 84 = .ok (.iastore, 1) := by decide +kernel
theorem dX11_move_85 : decode cX11_move 85 = .ok (.aload_n 0, 1) := by decide +kernel
theorem dX11_move_86 : decode cX11_move 86 = .ok (.iload 4, 2) := by decide +kernel
theorem dX11_move_88 : decode cX11_move 88 = .ok (.invokevirtual 142, 3) := by decide +kernel
theorem dX11_move_91 : decode cX11_move 91 = .ok (.iload 5, 2) := by decide +kernel
theorem dX11_move_93 : decode cX11_move 93 = .ok (.ireturn, 1) := by decide +kernel
theorem dX11_leaves_0 : decode cX11_leaves 0 = .ok (.aload_n 0, 1) := by decide +kernel
theorem dX11_leaves_1 : decode cX11_leaves 1 = .ok (.getfield 7, 3) := by decide +kernel
theorem dX11_leaves_4 : decode cX11_leaves 4 = .ok (.iload_n 1, 1) := by decide +kernel
theorem dX11_leaves_5 : decode cX11_leaves 5 = .ok (.iconst 0, 1) := by decide +kernel
theorem dX11_leaves_6 : decode cX11_leaves 6 = .ok (.iastore, 1) := by decide +kernel
theorem dX11_leaves_7 : decode cX11_leaves 7 = .ok (.aload_n 0, 1) := by decide +kernel
theorem dX11_leaves_8 : decode cX11_leaves 8 = .ok (.getfield 13, 3) := by decide +kernel
theorem dX11_leaves_11 : decode cX11_leaves 11 = .ok (.iload_n 1, 1) := by decide +kernel
theorem dX11_leaves_12 : decode cX11_leaves 12 = .ok (.lconst 0, 1) := by decide +kernel
theorem dX11_leaves_13 : decode cX11_leaves 13 = .ok (.lastore, 1) := by decide +kernel
theorem dX11_leaves_14 : decode cX11_leaves 14 = .ok (.aload_n 0, 1) := by decide +kernel
theorem dX11_leaves_15 : decode cX11_leaves 15 = .ok (.getfield 17, 3) := by decide +kernel
theorem dX11_leaves_18 : decode cX11_leaves 18 = .ok (.iload_n 1, 1) := by decide +kernel
theorem dX11_leaves_19 : decode cX11_leaves 19 = .ok (.iconst 0, 1) := by decide +kernel
theorem dX11_leaves_20 : decode cX11_leaves 20 = .ok (.iastore, 1) := by decide +kernel
theorem dX11_leaves_21 : decode cX11_leaves 21 = .ok (.return_, 1) := by decide +kernel
theorem dX11_erase_0 : decode cX11_erase 0 = .ok (.aload_n 0, 1) := by decide +kernel
theorem dX11_erase_1 : decode cX11_erase 1 = .ok (.iload_n 1, 1) := by decide +kernel
theorem dX11_erase_2 : decode cX11_erase 2 = .ok (.invokestatic 135, 3) := by decide +kernel
theorem dX11_erase_5 : decode cX11_erase 5 = .ok (.ifCond .eq 10, 3) := by decide +kernel
theorem dX11_erase_8 : decode cX11_erase 8 = .ok (.iload_n 2, 1) := by decide +kernel
theorem dX11_erase_9 : decode cX11_erase 9 = .ok (.invokestatic 139, 3) := by decide +kernel
theorem dX11_erase_12 : decode cX11_erase 12 = .ok (.ifCond .ne 7, 3) := by decide +kernel
theorem dX11_erase_15 : decode cX11_erase 15 = .ok (.iconst 1, 1) := by decide +kernel
theorem dX11_erase_16 : decode cX11_erase 16 = .ok (.goto 22, 3) := by decide +kernel
theorem dX11_erase_19 : decode cX11_erase 19 = .ok (.aload_n 0, 1) := by decide +kernel
theorem dX11_erase_20 : decode cX11_erase 20 = .ok (.getfield 7, 3) := by decide +kernel
theorem dX11_erase_23 : decode cX11_erase 23 = .ok (.bipush 16, 2) := by decide +kernel
theorem dX11_erase_25 : decode cX11_erase 25 = .ok (.iload_n 1, 1) := by decide +kernel
theorem dX11_erase_26 : decode cX11_erase 26 = .ok (.imul, 1) := by decide +kernel
theorem dX11_erase_27 : decode cX11_erase 27 = .ok (.iload_n 2, 1) := by decide +kernel
theorem dX11_erase_28 : decode cX11_erase 28 = .ok (.iadd, 1) := by decide +kernel
theorem dX11_erase_29 : decode cX11_erase 29 = .ok (.iaload, 1) := by decide +kernel
theorem dX11_erase_30 : decode cX11_erase 30 = .ok (.ifCond .ne 7, 3) := by decide +kernel
theorem dX11_erase_33 : decode cX11_erase 33 = .ok (.iconst 2, 1) := by decide +kernel
theorem dX11_erase_34 : decode cX11_erase 34 = .ok (.goto 4, 3) := by decide +kernel
theorem dX11_erase_37 : decode cX11_erase 37 = .ok (.iconst 0, 1) := by decide +kernel
theorem dX11_erase_38 : decode cX11_erase 38 = .ok (.putfield 101, 3) := by decide +kernel
theorem dX11_erase_41 : decode cX11_erase 41 = .ok (.aload_n 0, 1) := by decide +kernel
theorem dX11_erase_42 : decode cX11_erase 42 = .ok (.getfield 101, 3) := by decide +kernel
theorem dX11_erase_45 : decode cX11_erase 45 = .ok (.ifCond .le 5, 3) := by decide +kernel
theorem dX11_erase_48 : decode cX11_erase 48 = .ok (.iconst 0, 1) := by decide +kernel
theorem dX11_erase_49 : decode cX11_erase 49 = .ok (.ireturn, 1) := by decide +kernel
theorem dX11_erase_50 : decode cX11_erase 50 = .ok (.bipush 16, 2) := by decide +kernel
theorem dX11_erase_52 : decode cX11_erase 52 = .ok (.iload_n 1, 1) := by decide +kernel
theorem dX11_erase_53 : decode cX11_erase 53 = .ok (.imul, 1) := by decide +kernel
theorem dX11_erase_54 : decode cX11_erase 54 = .ok (.iload_n 2, 1) := by decide +kernel
theorem dX11_erase_55 : decode cX11_erase 55 = .ok (.iadd, 1) := by decide +kernel
theorem dX11_erase_56 : decode cX11_erase 56 = .ok (.istore_n 3, 1) := by decide +kernel
theorem dX11_erase_57 : decode cX11_erase 57 = .ok (.aload_n 0, 1) := by decide +kernel
theorem dX11_erase_58 : decode cX11_erase 58 = .ok (.getfield 7, 3) := by decide +kernel
theorem dX11_erase_61 : decode cX11_erase 61 = .ok (.iload_n 3, 1) := by decide +kernel
theorem dX11_erase_62 : decode cX11_erase 62 = .ok (.iaload, 1) := by decide +kernel
theorem dX11_erase_63 : decode cX11_erase 63 = .ok (.istore 4, 2) := by decide +kernel
theorem dX11_erase_65 : decode cX11_erase 65 = .ok (.aload_n 0, 1) := by decide +kernel
theorem dX11_erase_66 : decode cX11_erase 66 = .ok (.iload_n 3, 1) := by decide +kernel
theorem dX11_erase_67 : decode cX11_erase 67 = .ok (.invokevirtual 145, 3) := by decide +kernel
theorem dX11_erase_70 : decode cX11_erase 70 = .ok (.aload_n 0, 1) := by decide +kernel
theorem dX11_erase_71 : decode cX11_erase 71 = .ok (.iload_n 3, 1) := by decide +kernel
theorem dX11_erase_72 : decode cX11_erase 72 = .ok (.invokevirtual 142, 3) := by decide +kernel
theorem dX11_erase_75 : decode cX11_erase 75 = .ok (.iload 4, 2) := by decide +kernel
theorem dX11_erase_77 : decode cX11_erase 77 = .ok (.ireturn, 1) := by decide +kernel
theorem dX11_late_0 : decode cX11_late 0 = .ok (.aload_n 0, 1) := by decide +kernel
theorem dX11_late_1 : decode cX11_late 1 = .ok (.iload_n 1, 1) := by decide +kernel
theorem dX11_late_2 : decode cX11_late 2 = .ok (.invokestatic 135, 3) := by decide +kernel
theorem dX11_late_5 : decode cX11_late 5 = .ok (.ifCond .ne 7, 3) := by decide +kernel
theorem dX11_late_8 : decode cX11_late 8 = .ok (.iconst 1, 1) := by decide +kernel
theorem dX11_late_9 : decode cX11_late 9 = .ok (.goto 18, 3) := by decide +kernel
theorem dX11_late_12 : decode cX11_late 12 = .ok (.iload_n 2, 1) := by decide +kernel
theorem dX11_late_13 : decode cX11_late 13 = .ok (.iconst 0, 1) := by decide +kernel
theorem dX11_late_14 : decode cX11_late 14 = .ok (.bipush 50, 2) := by decide +kernel
theorem dX11_late_16 : decode cX11_late 16 = .ok (.invokestatic 105, 3) := by decide +kernel
theorem dX11_late_19 : decode cX11_late 19 = .ok (.ifCond .ne 7, 3) := by decide +kernel
theorem dX11_late_22 : decode cX11_late 22 = .ok (.iconst 2, 1) := by decide +kernel
theorem dX11_late_23 : decode cX11_late 23 = .ok (.goto 4, 3) := by decide +kernel
theorem dX11_late_26 : decode cX11_late 26 = .ok (.iconst 0, 1) := by decide +kernel
theorem dX11_late_27 : decode cX11_late 27 = .ok (.putfield 101, 3) := by decide +kernel
theorem dX11_late_30 : decode cX11_late 30 = .ok (.aload_n 0, 1) := by decide +kernel
theorem dX11_late_31 : decode cX11_late 31 = .ok (.getfield 101, 3) := by decide +kernel
theorem dX11_late_34 : decode cX11_late 34 = .ok (.ifCond .le 5, 3) := by decide +kernel
theorem dX11_late_37 : decode cX11_late 37 = .ok (.iconst 0, 1) := by decide +kernel
theorem dX11_late_38 : decode cX11_late 38 = .ok (.ireturn, 1) := by decide +kernel
theorem dX11_late_39 : decode cX11_late 39 = .ok (.aload_n 0, 1) := by decide +kernel
theorem dX11_late_40 : decode cX11_late 40 = .ok (.getfield 32, 3) := by decide +kernel
theorem dX11_late_43 : decode cX11_late 43 = .ok (.iload_n 1, 1) := by decide +kernel
theorem dX11_late_44 : decode cX11_late 44 = .ok (.iaload, 1) := by decide +kernel
theorem dX11_late_45 : decode cX11_late 45 = .ok (.istore_n 3, 1) := by decide +kernel
theorem dX11_late_46 : decode cX11_late 46 = .ok (.aload_n 0, 1) := by decide +kernel
theorem dX11_late_47 : decode cX11_late 47 = .ok (.getfield 32, 3) := by decide +kernel
theorem dX11_late_50 : decode cX11_late 50 = .ok (.iload_n 1, 1) := by decide +kernel
theorem dX11_late_51 : decode cX11_late 51 = .ok (.iload_n 2, 1) := by decide +kernel
theorem dX11_late_52 : decode cX11_late 52 = .ok (.iastore, 1) := by decide +kernel
theorem dX11_late_53 : decode cX11_late 53 = .ok (.iload_n 3, 1) := by decide +kernel
theorem dX11_late_54 : decode cX11_late 54 = .ok (.ireturn, 1) := by decide +kernel
theorem dX11_lose_0 : decode cX11_lose 0 = .ok (.aload_n 0, 1) := by decide +kernel
theorem dX11_lose_1 : decode cX11_lose 1 = .ok (.iload_n 1, 1) := by decide +kernel
theorem dX11_lose_2 : decode cX11_lose 2 = .ok (.invokestatic 135, 3) := by decide +kernel
theorem dX11_lose_5 : decode cX11_lose 5 = .ok (.ifCond .eq 7, 3) := by decide +kernel
theorem dX11_lose_8 : decode cX11_lose 8 = .ok (.iconst 0, 1) := by decide +kernel
theorem dX11_lose_9 : decode cX11_lose 9 = .ok (.goto 4, 3) := by decide +kernel
theorem dX11_lose_12 : decode cX11_lose 12 = .ok (.iconst 1, 1) := by decide +kernel
theorem dX11_lose_13 : decode cX11_lose 13 = .ok (.putfield 101, 3) := by decide +kernel
theorem dX11_lose_16 : decode cX11_lose 16 = .ok (.iconst 0, 1) := by decide +kernel
theorem dX11_lose_17 : decode cX11_lose 17 = .ok (.istore_n 2, 1) := by decide +kernel
theorem dX11_lose_18 : decode cX11_lose 18 = .ok (.iconst 0, 1) := by decide +kernel
theorem dX11_lose_19 : decode cX11_lose 19 = .ok (.istore_n 3, 1) := by decide +kernel
theorem dX11_lose_20 : decode cX11_lose 20 = .ok (.iload_n 3, 1) := by decide +kernel
theorem dX11_lose_21 : decode cX11_lose 21 = .ok (.aload_n 0, 1) := by decide +kernel
theorem dX11_lose_22 : decode cX11_lose 22 = .ok (.getfield 129, 3) := by decide +kernel
theorem dX11_lose_25 : decode cX11_lose 25 = .ok (.if_icmp .ge 48, 3) := by decide +kernel
theorem dX11_lose_28 : decode cX11_lose 28 = .ok (.aload_n 0, 1) := by decide +kernel
theorem dX11_lose_29 : decode cX11_lose 29 = .ok (.getfield 101, 3) := by decide +kernel
theorem dX11_lose_32 : decode cX11_lose 32 = .ok (.ifCond .ne 41, 3) := by decide +kernel
theorem dX11_lose_35 : decode cX11_lose 35 = .ok (.aload_n 0, 1) := by decide +kernel
theorem dX11_lose_36 : decode cX11_lose 36 = .ok (.getfield 38, 3) := by decide +kernel
theorem dX11_lose_39 : decode cX11_lose 39 = .ok (.iload_n 3, 1) := by decide +kernel
theorem dX11_lose_40 : decode cX11_lose 40 = .ok (.iaload, 1) := by decide +kernel
theorem dX11_lose_41 : decode cX11_lose 41 = .ok (.bipush 16, 2) := by decide +kernel
theorem dX11_lose_43 : decode cX11_lose 43 = .ok (.idiv, 1) := by decide +kernel
theorem dX11_lose_44 : decode cX11_lose 44 = .ok (.iload_n 1, 1) := by decide +kernel
theorem dX11_lose_45 : decode cX11_lose 45 = .ok (.if_icmp .ne 22, 3) := by decide +kernel
theorem dX11_lose_48 : decode cX11_lose 48 = .ok (.aload_n 0, 1) := by decide +kernel
theorem dX11_lose_49 : decode cX11_lose 49 = .ok (.getfield 41, 3) := by decide +kernel
theorem dX11_lose_52 : decode cX11_lose 52 = .ok (.iload_n 3, 1) := by decide +kernel
theorem dX11_lose_53 : decode cX11_lose 53 = .ok (.iaload, 1) := by decide +kernel
theorem dX11_lose_54 : decode cX11_lose 54 = .ok (.ifCond .le 13, 3) := by decide +kernel
theorem dX11_lose_57 : decode cX11_lose 57 = .ok (.aload_n 0, 1) := by decide +kernel
theorem dX11_lose_58 : decode cX11_lose 58 = .ok (.getfield 41, 3) := by decide +kernel
theorem dX11_lose_61 : decode cX11_lose 61 = .ok (.iload_n 3, 1) := by decide +kernel
theorem dX11_lose_62 : decode cX11_lose 62 = .ok (.iconst 0, 1) := by decide +kernel
theorem dX11_lose_63 : decode cX11_lose 63 = .ok (.iastore, 1) := by decide +kernel
theorem dX11_lose_64 : decode cX11_lose 64 = .ok (.iinc 2 1, 3) := by decide +kernel
theorem dX11_lose_67 : decode cX11_lose 67 = .ok (.iinc 3 1, 3) := by decide +kernel
theorem dX11_lose_70 : decode cX11_lose 70 = .ok (.goto (-50), 3) := by decide +kernel
theorem dX11_lose_73 : decode cX11_lose 73 = .ok (.iload_n 2, 1) := by decide +kernel
theorem dX11_lose_74 : decode cX11_lose 74 = .ok (.ireturn, 1) := by decide +kernel
theorem dX11_isAs_0 : decode cX11_isAs 0 = .ok (.iload_n 2, 1) := by decide +kernel
theorem dX11_isAs_1 : decode cX11_isAs 1 = .ok (.iconst (-1), 1) := by decide +kernel
theorem dX11_isAs_2 : decode cX11_isAs 2 = .ok (.if_icmp .eq 14, 3) := by decide +kernel
theorem dX11_isAs_5 : decode cX11_isAs 5 = .ok (.aload_n 0, 1) := by decide +kernel
theorem dX11_isAs_6 : decode cX11_isAs 6 = .ok (.getfield 56, 3) := by decide +kernel
theorem dX11_isAs_9 : decode cX11_isAs 9 = .ok (.iload_n 2, 1) := by decide +kernel
theorem dX11_isAs_10 : decode cX11_isAs 10 = .ok (.laload, 1) := by decide +kernel
theorem dX11_isAs_11 : decode cX11_isAs 11 = .ok (.lconst 0, 1) := by decide +kernel
theorem dX11_isAs_12 : decode cX11_isAs 12 = .ok (.lcmp, 1) := by decide +kernel
theorem dX11_isAs_13 : decode cX11_isAs 13 = .ok (.ifCond .ne 18, 3) := by decide +kernel
theorem dX11_isAs_16 : decode cX11_isAs 16 = .ok (.aload_n 0, 1) := by decide +kernel
theorem dX11_isAs_17 : decode cX11_isAs 17 = .ok (.getfield 7, 3) := by decide +kernel
theorem dX11_isAs_20 : decode cX11_isAs 20 = .ok (.iload_n 1, 1) := by decide +kernel
theorem dX11_isAs_21 : decode cX11_isAs 21 = .ok (.iaload, 1) := by decide +kernel
theorem dX11_isAs_22 : decode cX11_isAs 22 = .ok (.ifCond .ne 7, 3) := by decide +kernel
theorem dX11_isAs_25 : decode cX11_isAs 25 = .ok (.iconst 1, 1) := by decide +kernel
theorem dX11_isAs_26 : decode cX11_isAs 26 = .ok (.goto 4, 3) := by decide +kernel
theorem dX11_isAs_29 : decode cX11_isAs 29 = .ok (.iconst 0, 1) := by decide +kernel
theorem dX11_isAs_30 : decode cX11_isAs 30 = .ok (.ireturn, 1) := by decide +kernel
theorem dX11_isAs_31 : decode cX11_isAs 31 = .ok (.aload_n 0, 1) := by decide +kernel
theorem dX11_isAs_32 : decode cX11_isAs 32 = .ok (.getfield 7, 3) := by decide +kernel
theorem dX11_isAs_35 : decode cX11_isAs 35 = .ok (.iload_n 1, 1) := by decide +kernel
theorem dX11_isAs_36 : decode cX11_isAs 36 = .ok (.iaload, 1) := by decide +kernel
theorem dX11_isAs_37 : decode cX11_isAs 37 = .ok (.ifCond .eq 38, 3) := by decide +kernel
theorem dX11_isAs_40 : decode cX11_isAs 40 = .ok (.aload_n 0, 1) := by decide +kernel
theorem dX11_isAs_41 : decode cX11_isAs 41 = .ok (.getfield 13, 3) := by decide +kernel
theorem dX11_isAs_44 : decode cX11_isAs 44 = .ok (.iload_n 1, 1) := by decide +kernel
theorem dX11_isAs_45 : decode cX11_isAs 45 = .ok (.laload, 1) := by decide +kernel
theorem dX11_isAs_46 : decode cX11_isAs 46 = .ok (.aload_n 0, 1) := by decide +kernel
theorem dX11_isAs_47 : decode cX11_isAs 47 = .ok (.getfield 56, 3) := by decide +kernel
theorem dX11_isAs_50 : decode cX11_isAs 50 = .ok (.iload_n 2, 1) := by decide +kernel
theorem dX11_isAs_51 : decode cX11_isAs 51 = .ok (.laload, 1) := by decide +kernel
theorem dX11_isAs_52 : decode cX11_isAs 52 = .ok (.lcmp, 1) := by decide +kernel
theorem dX11_isAs_53 : decode cX11_isAs 53 = .ok (.ifCond .ne 22, 3) := by decide +kernel
theorem dX11_isAs_56 : decode cX11_isAs 56 = .ok (.aload_n 0, 1) := by decide +kernel
theorem dX11_isAs_57 : decode cX11_isAs 57 = .ok (.getfield 17, 3) := by decide +kernel
theorem dX11_isAs_60 : decode cX11_isAs 60 = .ok (.iload_n 1, 1) := by decide +kernel
theorem dX11_isAs_61 : decode cX11_isAs 61 = .ok (.iaload, 1) := by decide +kernel
theorem dX11_isAs_62 : decode cX11_isAs 62 = .ok (.aload_n 0, 1) := by decide +kernel
theorem dX11_isAs_63 : decode cX11_isAs 63 = .ok (.getfield 53, 3) := by decide +kernel
theorem dX11_isAs_66 : decode cX11_isAs 66 = .ok (.iload_n 2, 1) := by decide +kernel
theorem dX11_isAs_67 : decode cX11_isAs 67 = .ok (.iaload, 1) := by decide +kernel
theorem dX11_isAs_68 : decode cX11_isAs 68 = .ok (.if_icmp .ne 7, 3) := by decide +kernel
theorem dX11_isAs_71 : decode cX11_isAs 71 = .ok (.iconst 1, 1) := by decide +kernel
theorem dX11_isAs_72 : decode cX11_isAs 72 = .ok (.goto 4, 3) := by decide +kernel
theorem dX11_isAs_75 : decode cX11_isAs 75 = .ok (.iconst 0, 1) := by decide +kernel
theorem dX11_isAs_76 : decode cX11_isAs 76 = .ok (.ireturn, 1) := by decide +kernel
theorem dX11_isOther_0 : decode cX11_isOther 0 = .ok (.aload_n 0, 1) := by decide +kernel
theorem dX11_isOther_1 : decode cX11_isOther 1 = .ok (.iload_n 1, 1) := by decide +kernel
theorem dX11_isOther_2 : decode cX11_isOther 2 = .ok (.aload_n 0, 1) := by decide +kernel
theorem dX11_isOther_3 : decode cX11_isOther 3 = .ok (.getfield 20, 3) := by decide +kernel
theorem dX11_isOther_6 : decode cX11_isOther 6 = .ok (.iload_n 1, 1) := by decide +kernel
theorem dX11_isOther_7 : decode cX11_isOther 7 = .ok (.iaload, 1) := by decide +kernel
theorem dX11_isOther_8 : decode cX11_isOther 8 = .ok (.iconst 1, 1) := by decide +kernel
theorem dX11_isOther_9 : decode cX11_isOther 9 = .ok (.isub, 1) := by decide +kernel
theorem dX11_isOther_10 : decode cX11_isOther 10 = .ok (.invokevirtual 148, 3) := by decide +kernel
theorem dX11_isOther_13 : decode cX11_isOther 13 = .ok (.ifCond .ne 7, 3) := by decide +kernel
theorem dX11_isOther_16 : decode cX11_isOther 16 = .ok (.iconst 1, 1) := by decide +kernel
theorem dX11_isOther_17 : decode cX11_isOther 17 = .ok (.goto 4, 3) := by decide +kernel
theorem dX11_isOther_20 : decode cX11_isOther 20 = .ok (.iconst 0, 1) := by decide +kernel
theorem dX11_isOther_21 : decode cX11_isOther 21 = .ok (.ireturn, 1) := by decide +kernel
theorem dX11_scan_0 : decode cX11_scan 0 = .ok (.aload_n 0, 1) := by decide +kernel
theorem dX11_scan_1 : decode cX11_scan 1 = .ok (.iload_n 1, 1) := by decide +kernel
theorem dX11_scan_2 : decode cX11_scan 2 = .ok (.invokestatic 135, 3) := by decide +kernel
theorem dX11_scan_5 : decode cX11_scan 5 = .ok (.ifCond .eq 7, 3) := by decide +kernel
theorem dX11_scan_8 : decode cX11_scan 8 = .ok (.iconst 0, 1) := by decide +kernel
theorem dX11_scan_9 : decode cX11_scan 9 = .ok (.goto 4, 3) := by decide +kernel
theorem dX11_scan_12 : decode cX11_scan 12 = .ok (.iconst 1, 1) := by decide +kernel
theorem dX11_scan_13 : decode cX11_scan 13 = .ok (.putfield 101, 3) := by decide +kernel
theorem dX11_scan_16 : decode cX11_scan 16 = .ok (.iconst 0, 1) := by decide +kernel
theorem dX11_scan_17 : decode cX11_scan 17 = .ok (.istore_n 2, 1) := by decide +kernel
theorem dX11_scan_18 : decode cX11_scan 18 = .ok (.bipush 16, 2) := by decide +kernel
theorem dX11_scan_20 : decode cX11_scan 20 = .ok (.iload_n 1, 1) := by decide +kernel
theorem dX11_scan_21 : decode cX11_scan 21 = .ok (.imul, 1) := by decide +kernel
theorem dX11_scan_22 : decode cX11_scan 22 = .ok (.istore_n 3, 1) := by decide +kernel
theorem dX11_scan_23 : decode cX11_scan 23 = .ok (.iload_n 3, 1) := by decide +kernel
theorem dX11_scan_24 : decode cX11_scan 24 = .ok (.bipush 16, 2) := by decide +kernel
theorem dX11_scan_26 : decode cX11_scan 26 = .ok (.iload_n 1, 1) := by decide +kernel
theorem dX11_scan_27 : decode cX11_scan 27 = .ok (.imul, 1) := by decide +kernel
theorem dX11_scan_28 : decode cX11_scan 28 = .ok (.bipush 16, 2) := by decide +kernel
theorem dX11_scan_30 : decode cX11_scan 30 = .ok (.iadd, 1) := by decide +kernel
theorem dX11_scan_31 : decode cX11_scan 31 = .ok (.if_icmp .ge 41, 3) := by decide +kernel
theorem dX11_scan_34 : decode cX11_scan 34 = .ok (.aload_n 0, 1) := by decide +kernel
theorem dX11_scan_35 : decode cX11_scan 35 = .ok (.getfield 101, 3) := by decide +kernel
theorem dX11_scan_38 : decode cX11_scan 38 = .ok (.ifCond .ne 34, 3) := by decide +kernel
theorem dX11_scan_41 : decode cX11_scan 41 = .ok (.aload_n 0, 1) := by decide +kernel
theorem dX11_scan_42 : decode cX11_scan 42 = .ok (.iload_n 3, 1) := by decide +kernel
theorem dX11_scan_43 : decode cX11_scan 43 = .ok (.invokevirtual 152, 3) := by decide +kernel
theorem dX11_scan_46 : decode cX11_scan 46 = .ok (.ifCond .eq 20, 3) := by decide +kernel
theorem dX11_scan_49 : decode cX11_scan 49 = .ok (.aload_n 0, 1) := by decide +kernel
theorem dX11_scan_50 : decode cX11_scan 50 = .ok (.getfield 29, 3) := by decide +kernel
theorem dX11_scan_53 : decode cX11_scan 53 = .ok (.iload_n 3, 1) := by decide +kernel
theorem dX11_scan_54 : decode cX11_scan 54 = .ok (.iaload, 1) := by decide +kernel
theorem dX11_scan_55 : decode cX11_scan 55 = .ok (.ifCond .ne 11, 3) := by decide +kernel
theorem dX11_scan_58 : decode cX11_scan 58 = .ok (.aload_n 0, 1) := by decide +kernel
theorem dX11_scan_59 : decode cX11_scan 59 = .ok (.iload_n 3, 1) := by decide +kernel
theorem dX11_scan_60 : decode cX11_scan 60 = .ok (.invokevirtual 126, 3) := by decide +kernel
theorem dX11_scan_63 : decode cX11_scan 63 = .ok (.iinc 2 1, 3) := by decide +kernel
theorem dX11_scan_66 : decode cX11_scan 66 = .ok (.iinc 3 1, 3) := by decide +kernel
theorem dX11_scan_69 : decode cX11_scan 69 = .ok (.goto (-46), 3) := by decide +kernel
theorem dX11_scan_72 : decode cX11_scan 72 = .ok (.iload_n 2, 1) := by decide +kernel
theorem dX11_scan_73 : decode cX11_scan 73 = .ok (.ireturn, 1) := by decide +kernel
theorem dX11_room_0 : decode cX11_room 0 = .ok (.aload_n 0, 1) := by decide +kernel
theorem dX11_room_1 : decode cX11_room 1 = .ok (.iload_n 1, 1) := by decide +kernel
theorem dX11_room_2 : decode cX11_room 2 = .ok (.invokestatic 135, 3) := by decide +kernel
theorem dX11_room_5 : decode cX11_room 5 = .ok (.ifCond .ne 7, 3) := by decide +kernel
theorem dX11_room_8 : decode cX11_room 8 = .ok (.iconst 1, 1) := by decide +kernel
theorem dX11_room_9 : decode cX11_room 9 = .ok (.goto 19, 3) := by decide +kernel
theorem dX11_room_12 : decode cX11_room 12 = .ok (.iload_n 2, 1) := by decide +kernel
theorem dX11_room_13 : decode cX11_room 13 = .ok (.iconst 0, 1) := by decide +kernel
theorem dX11_room_14 : decode cX11_room 14 = .ok (.sipush 200, 3) := by decide +kernel
theorem dX11_room_17 : decode cX11_room 17 = .ok (.invokestatic 105, 3) := by decide +kernel
theorem dX11_room_20 : decode cX11_room 20 = .ok (.ifCond .ne 7, 3) := by decide +kernel
theorem dX11_room_23 : decode cX11_room 23 = .ok (.iconst 2, 1) := by decide +kernel
theorem dX11_room_24 : decode cX11_room 24 = .ok (.goto 4, 3) := by decide +kernel
theorem dX11_room_27 : decode cX11_room 27 = .ok (.iconst 0, 1) := by decide +kernel
theorem dX11_room_28 : decode cX11_room 28 = .ok (.putfield 101, 3) := by decide +kernel
theorem dX11_room_31 : decode cX11_room 31 = .ok (.aload_n 0, 1) := by decide +kernel
theorem dX11_room_32 : decode cX11_room 32 = .ok (.getfield 101, 3) := by decide +kernel
theorem dX11_room_35 : decode cX11_room 35 = .ok (.ifCond .le 5, 3) := by decide +kernel
theorem dX11_room_38 : decode cX11_room 38 = .ok (.iconst 0, 1) := by decide +kernel
theorem dX11_room_39 : decode cX11_room 39 = .ok (.ireturn, 1) := by decide +kernel
theorem dX11_room_40 : decode cX11_room 40 = .ok (.aload_n 0, 1) := by decide +kernel
theorem dX11_room_41 : decode cX11_room 41 = .ok (.getfield 35, 3) := by decide +kernel
theorem dX11_room_44 : decode cX11_room 44 = .ok (.iload_n 1, 1) := by decide +kernel
theorem dX11_room_45 : decode cX11_room 45 = .ok (.iaload, 1) := by decide +kernel
theorem dX11_room_46 : decode cX11_room 46 = .ok (.istore_n 3, 1) := by decide +kernel
theorem dX11_room_47 : decode cX11_room 47 = .ok (.aload_n 0, 1) := by decide +kernel
theorem dX11_room_48 : decode cX11_room 48 = .ok (.getfield 35, 3) := by decide +kernel
theorem dX11_room_51 : decode cX11_room 51 = .ok (.iload_n 1, 1) := by decide +kernel
theorem dX11_room_52 : decode cX11_room 52 = .ok (.iload_n 2, 1) := by decide +kernel
theorem dX11_room_53 : decode cX11_room 53 = .ok (.iastore, 1) := by decide +kernel
theorem dX11_room_54 : decode cX11_room 54 = .ok (.iload_n 3, 1) := by decide +kernel
theorem dX11_room_55 : decode cX11_room 55 = .ok (.ireturn, 1) := by decide +kernel
theorem dX11_pin_0 : decode cX11_pin 0 = .ok (.aload_n 0, 1) := by decide +kernel
theorem dX11_pin_1 : decode cX11_pin 1 = .ok (.iload_n 1, 1) := by decide +kernel
theorem dX11_pin_2 : decode cX11_pin 2 = .ok (.invokestatic 135, 3) := by decide +kernel
theorem dX11_pin_5 : decode cX11_pin 5 = .ok (.ifCond .eq 14, 3) := by decide +kernel
theorem dX11_pin_8 : decode cX11_pin 8 = .ok (.iload_n 2, 1) := by decide +kernel
theorem dX11_pin_9 : decode cX11_pin 9 = .ok (.invokestatic 139, 3) := by decide +kernel
theorem dX11_pin_12 : decode cX11_pin 12 = .ok (.ifCond .eq 7, 3) := by decide +kernel
theorem dX11_pin_15 : decode cX11_pin 15 = .ok (.iconst 0, 1) := by decide +kernel
theorem dX11_pin_16 : decode cX11_pin 16 = .ok (.goto 4, 3) := by decide +kernel
theorem dX11_pin_19 : decode cX11_pin 19 = .ok (.iconst 1, 1) := by decide +kernel
theorem dX11_pin_20 : decode cX11_pin 20 = .ok (.putfield 101, 3) := by decide +kernel
theorem dX11_pin_23 : decode cX11_pin 23 = .ok (.aload_n 0, 1) := by decide +kernel
theorem dX11_pin_24 : decode cX11_pin 24 = .ok (.getfield 101, 3) := by decide +kernel
theorem dX11_pin_27 : decode cX11_pin 27 = .ok (.ifCond .le 5, 3) := by decide +kernel
theorem dX11_pin_30 : decode cX11_pin 30 = .ok (.iconst 0, 1) := by decide +kernel
theorem dX11_pin_31 : decode cX11_pin 31 = .ok (.ireturn, 1) := by decide +kernel
theorem dX11_pin_32 : decode cX11_pin 32 = .ok (.aload_n 0, 1) := by decide +kernel
theorem dX11_pin_33 : decode cX11_pin 33 = .ok (.getfield 23, 3) := by decide +kernel
theorem dX11_pin_36 : decode cX11_pin 36 = .ok (.bipush 16, 2) := by decide +kernel
theorem dX11_pin_38 : decode cX11_pin 38 = .ok (.iload_n 1, 1) := by decide +kernel
theorem dX11_pin_39 : decode cX11_pin 39 = .ok (.imul, 1) := by decide +kernel
theorem dX11_pin_40 : decode cX11_pin 40 = .ok (.iload_n 2, 1) := by decide +kernel
theorem dX11_pin_41 : decode cX11_pin 41 = .ok (.iadd, 1) := by decide +kernel
theorem dX11_pin_42 : decode cX11_pin 42 = .ok (.iaload, 1) := by decide +kernel
theorem dX11_pin_43 : decode cX11_pin 43 = .ok (.iconst 1, 1) := by decide +kernel
theorem dX11_pin_44 : decode cX11_pin 44 = .ok (.if_icmp .ne 7, 3) := by decide +kernel
theorem dX11_pin_47 : decode cX11_pin 47 = .ok (.iconst 1, 1) := by decide +kernel
theorem dX11_pin_48 : decode cX11_pin 48 = .ok (.goto 4, 3) := by decide +kernel
theorem dX11_pin_51 : decode cX11_pin 51 = .ok (.iconst 0, 1) := by decide +kernel
theorem dX11_pin_52 : decode cX11_pin 52 = .ok (.istore 4, 2) := by decide +kernel
theorem dX11_pin_54 : decode cX11_pin 54 = .ok (.aload_n 0, 1) := by decide +kernel
theorem dX11_pin_55 : decode cX11_pin 55 = .ok (.getfield 23, 3) := by decide +kernel
theorem dX11_pin_58 : decode cX11_pin 58 = .ok (.bipush 16, 2) := by decide +kernel
theorem dX11_pin_60 : decode cX11_pin 60 = .ok (.iload_n 1, 1) := by decide +kernel
theorem dX11_pin_61 : decode cX11_pin 61 = .ok (.imul, 1) := by decide +kernel
theorem dX11_pin_62 : decode cX11_pin 62 = .ok (.iload_n 2, 1) := by decide +kernel
theorem dX11_pin_63 : decode cX11_pin 63 = .ok (.iadd, 1) := by decide +kernel
theorem dX11_pin_64 : decode cX11_pin 64 = .ok (.iload_n 3, 1) := by decide +kernel
theorem dX11_pin_65 : decode cX11_pin 65 = .ok (.ifCond .eq 7, 3) := by decide +kernel
theorem dX11_pin_68 : decode cX11_pin 68 = .ok (.iconst 1, 1) := by decide +kernel
theorem dX11_pin_69 : decode cX11_pin 69 = .ok (.goto 4, 3) := by decide +kernel
theorem dX11_pin_72 : decode cX11_pin 72 = .ok (.iconst 0, 1) := by decide +kernel
theorem dX11_pin_73 : decode cX11_pin 73 = .ok (.iastore, 1) := by decide +kernel
theorem dX11_pin_74 : decode cX11_pin 74 = .ok (.iload 4, 2) := by decide +kernel
theorem dX11_pin_76 : decode cX11_pin 76 = .ok (.ireturn, 1) := by decide +kernel
theorem dX11_latestOf_0 : decode cX11_latestOf 0 = .ok (.aload_n 0, 1) := by decide +kernel
theorem dX11_latestOf_1 : decode cX11_latestOf 1 = .ok (.getfield 155, 3) := by decide +kernel
theorem dX11_latestOf_4 : decode cX11_latestOf 4 = .ok (.iconst 1, 1) := by decide +kernel
theorem dX11_latestOf_5 : decode cX11_latestOf 5 = .ok (.isub, 1) := by decide +kernel
theorem dX11_latestOf_6 : decode cX11_latestOf 6 = .ok (.istore_n 2, 1) := by decide +kernel
theorem dX11_latestOf_7 : decode cX11_latestOf 7 = .ok (.iload_n 2, 1) := by decide +kernel
theorem dX11_latestOf_8 : decode cX11_latestOf 8 = .ok (.ifCond .lt 30, 3) := by decide +kernel
theorem dX11_latestOf_11 : decode cX11_latestOf 11 = .ok (.aload_n 0, 1) := by decide +kernel
theorem dX11_latestOf_12 : decode cX11_latestOf 12 = .ok (.getfield 44, 3) := by decide +kernel
theorem dX11_latestOf_15 : decode cX11_latestOf 15 = .ok (.iload_n 2, 1) := by decide +kernel
theorem dX11_latestOf_16 : decode cX11_latestOf 16 = .ok (.iaload, 1) := by decide +kernel
theorem dX11_latestOf_17 : decode cX11_latestOf 17 = .ok (.iload_n 1, 1) := by decide +kernel
theorem dX11_latestOf_18 : decode cX11_latestOf 18 = .ok (.if_icmp .ne 14, 3) := by decide +kernel
theorem dX11_latestOf_21 : decode cX11_latestOf 21 = .ok (.aload_n 0, 1) := by decide +kernel
theorem dX11_latestOf_22 : decode cX11_latestOf 22 = .ok (.getfield 59, 3) := by decide +kernel
theorem dX11_latestOf_25 : decode cX11_latestOf 25 = .ok (.iload_n 2, 1) := by decide +kernel
theorem dX11_latestOf_26 : decode cX11_latestOf 26 = .ok (.iaload, 1) := by decide +kernel
theorem dX11_latestOf_27 : decode cX11_latestOf 27 = .ok (.ifCond .ne 5, 3) := by decide +kernel
theorem dX11_latestOf_30 : decode cX11_latestOf 30 = .ok (.iload_n 2, 1) := by decide +kernel
theorem dX11_latestOf_31 : decode cX11_latestOf 31 = .ok (.ireturn, 1) := by decide +kernel
theorem dX11_latestOf_32 : decode cX11_latestOf 32 = .ok (.iinc 2 (-1), 3) := by decide +kernel
theorem dX11_latestOf_35 : decode cX11_latestOf 35 = .ok (.goto (-28), 3) := by decide +kernel
theorem dX11_latestOf_38 : decode cX11_latestOf 38 = .ok (.iconst (-1), 1) := by decide +kernel
theorem dX11_latestOf_39 : decode cX11_latestOf 39 = .ok (.ireturn, 1) := by decide +kernel
theorem dX11_isIn_0 : decode cX11_isIn 0 = .ok (.iload_n 1, 1) := by decide +kernel
theorem dX11_isIn_1 : decode cX11_isIn 1 = .ok (.iconst (-1), 1) := by decide +kernel
theorem dX11_isIn_2 : decode cX11_isIn 2 = .ok (.if_icmp .eq 18, 3) := by decide +kernel
theorem dX11_isIn_5 : decode cX11_isIn 5 = .ok (.aload_n 0, 1) := by decide +kernel
theorem dX11_isIn_6 : decode cX11_isIn 6 = .ok (.getfield 56, 3) := by decide +kernel
theorem dX11_isIn_9 : decode cX11_isIn 9 = .ok (.iload_n 1, 1) := by decide +kernel
theorem dX11_isIn_10 : decode cX11_isIn 10 = .ok (.laload, 1) := by decide +kernel
theorem dX11_isIn_11 : decode cX11_isIn 11 = .ok (.lconst 0, 1) := by decide +kernel
theorem dX11_isIn_12 : decode cX11_isIn 12 = .ok (.lcmp, 1) := by decide +kernel
theorem dX11_isIn_13 : decode cX11_isIn 13 = .ok (.ifCond .le 7, 3) := by decide +kernel
theorem dX11_isIn_16 : decode cX11_isIn 16 = .ok (.iconst 1, 1) := by decide +kernel
theorem dX11_isIn_17 : decode cX11_isIn 17 = .ok (.goto 4, 3) := by decide +kernel
theorem dX11_isIn_20 : decode cX11_isIn 20 = .ok (.iconst 0, 1) := by decide +kernel
theorem dX11_isIn_21 : decode cX11_isIn 21 = .ok (.ireturn, 1) := by decide +kernel
theorem dX11_rightOf_0 : decode cX11_rightOf 0 = .ok (.aload_n 0, 1) := by decide +kernel
theorem dX11_rightOf_1 : decode cX11_rightOf 1 = .ok (.getfield 132, 3) := by decide +kernel
theorem dX11_rightOf_4 : decode cX11_rightOf 4 = .ok (.aload_n 0, 1) := by decide +kernel
theorem dX11_rightOf_5 : decode cX11_rightOf 5 = .ok (.getfield 71, 3) := by decide +kernel
theorem dX11_rightOf_8 : decode cX11_rightOf 8 = .ok (.iconst 3, 1) := by decide +kernel
theorem dX11_rightOf_9 : decode cX11_rightOf 9 = .ok (.iload_n 1, 1) := by decide +kernel
theorem dX11_rightOf_10 : decode cX11_rightOf 10 = .ok (.imul, 1) := by decide +kernel
theorem dX11_rightOf_11 : decode cX11_rightOf 11 = .ok (.iload_n 2, 1) := by decide +kernel
theorem dX11_rightOf_12 : decode cX11_rightOf 12 = .ok (.iadd, 1) := by decide +kernel
theorem dX11_rightOf_13 : decode cX11_rightOf 13 = .ok (.iaload, 1) := by decide +kernel
theorem dX11_rightOf_14 : decode cX11_rightOf 14 = .ok (.if_icmp .ge 16, 3) := by decide +kernel
theorem dX11_rightOf_17 : decode cX11_rightOf 17 = .ok (.aload_n 0, 1) := by decide +kernel
theorem dX11_rightOf_18 : decode cX11_rightOf 18 = .ok (.getfield 68, 3) := by decide +kernel
theorem dX11_rightOf_21 : decode cX11_rightOf 21 = .ok (.iconst 3, 1) := by decide +kernel
theorem dX11_rightOf_22 : decode cX11_rightOf 22 = .ok (.iload_n 1, 1) := by decide +kernel
theorem dX11_rightOf_23 : decode cX11_rightOf 23 = .ok (.imul, 1) := by decide +kernel
theorem dX11_rightOf_24 : decode cX11_rightOf 24 = .ok (.iload_n 2, 1) := by decide +kernel
theorem dX11_rightOf_25 : decode cX11_rightOf 25 = .ok (.iadd, 1) := by decide +kernel
theorem dX11_rightOf_26 : decode cX11_rightOf 26 = .ok (.iaload, 1) := by decide +kernel
theorem dX11_rightOf_27 : decode cX11_rightOf 27 = .ok (.goto 4, 3) := by decide +kernel
theorem dX11_rightOf_30 : decode cX11_rightOf 30 = .ok (.iconst 0, 1) := by decide +kernel
theorem dX11_rightOf_31 : decode cX11_rightOf 31 = .ok (.ireturn, 1) := by decide +kernel
theorem dX11_locker_0 : decode cX11_locker 0 = .ok (.aload_n 0, 1) := by decide +kernel
theorem dX11_locker_1 : decode cX11_locker 1 = .ok (.getfield 62, 3) := by decide +kernel
theorem dX11_locker_4 : decode cX11_locker 4 = .ok (.iload_n 1, 1) := by decide +kernel
theorem dX11_locker_5 : decode cX11_locker 5 = .ok (.iaload, 1) := by decide +kernel
theorem dX11_locker_6 : decode cX11_locker 6 = .ok (.ifCond .le 27, 3) := by decide +kernel
theorem dX11_locker_9 : decode cX11_locker 9 = .ok (.aload_n 0, 1) := by decide +kernel
theorem dX11_locker_10 : decode cX11_locker 10 = .ok (.getfield 132, 3) := by decide +kernel
theorem dX11_locker_13 : decode cX11_locker 13 = .ok (.aload_n 0, 1) := by decide +kernel
theorem dX11_locker_14 : decode cX11_locker 14 = .ok (.getfield 65, 3) := by decide +kernel
theorem dX11_locker_17 : decode cX11_locker 17 = .ok (.iload_n 1, 1) := by decide +kernel
theorem dX11_locker_18 : decode cX11_locker 18 = .ok (.iaload, 1) := by decide +kernel
theorem dX11_locker_19 : decode cX11_locker 19 = .ok (.if_icmp .ge 14, 3) := by decide +kernel
theorem dX11_locker_22 : decode cX11_locker 22 = .ok (.aload_n 0, 1) := by decide +kernel
theorem dX11_locker_23 : decode cX11_locker 23 = .ok (.getfield 62, 3) := by decide +kernel
theorem dX11_locker_26 : decode cX11_locker 26 = .ok (.iload_n 1, 1) := by decide +kernel
theorem dX11_locker_27 : decode cX11_locker 27 = .ok (.iaload, 1) := by decide +kernel
theorem dX11_locker_28 : decode cX11_locker 28 = .ok (.iconst 1, 1) := by decide +kernel
theorem dX11_locker_29 : decode cX11_locker 29 = .ok (.isub, 1) := by decide +kernel
theorem dX11_locker_30 : decode cX11_locker 30 = .ok (.goto 4, 3) := by decide +kernel
theorem dX11_locker_33 : decode cX11_locker 33 = .ok (.iconst (-1), 1) := by decide +kernel
theorem dX11_locker_34 : decode cX11_locker 34 = .ok (.ireturn, 1) := by decide +kernel
theorem dX11_makes_0 : decode cX11_makes 0 = .ok (.aload_n 0, 1) := by decide +kernel
theorem dX11_makes_1 : decode cX11_makes 1 = .ok (.getfield 44, 3) := by decide +kernel
theorem dX11_makes_4 : decode cX11_makes 4 = .ok (.aload_n 0, 1) := by decide +kernel
theorem dX11_makes_5 : decode cX11_makes 5 = .ok (.getfield 155, 3) := by decide +kernel
theorem dX11_makes_8 : decode cX11_makes 8 = .ok (.iload_n 1, 1) := by decide +kernel
theorem dX11_makes_9 : decode cX11_makes 9 = .ok (.iastore, 1) := by decide +kernel
theorem dX11_makes_10 : decode cX11_makes 10 = .ok (.aload_n 0, 1) := by decide +kernel
theorem dX11_makes_11 : decode cX11_makes 11 = .ok (.getfield 47, 3) := by decide +kernel
theorem dX11_makes_14 : decode cX11_makes 14 = .ok (.aload_n 0, 1) := by decide +kernel
theorem dX11_makes_15 : decode cX11_makes 15 = .ok (.getfield 155, 3) := by decide +kernel
theorem dX11_makes_18 : decode cX11_makes 18 = .ok (.aload_n 0, 1) := by decide +kernel
theorem dX11_makes_19 : decode cX11_makes 19 = .ok (.getfield 132, 3) := by decide +kernel
theorem dX11_makes_22 : decode cX11_makes 22 = .ok (.iastore, 1) := by decide +kernel
theorem dX11_makes_23 : decode cX11_makes 23 = .ok (.aload_n 0, 1) := by decide +kernel
theorem dX11_makes_24 : decode cX11_makes 24 = .ok (.getfield 50, 3) := by decide +kernel
theorem dX11_makes_27 : decode cX11_makes 27 = .ok (.aload_n 0, 1) := by decide +kernel
theorem dX11_makes_28 : decode cX11_makes 28 = .ok (.getfield 155, 3) := by decide +kernel
theorem dX11_makes_31 : decode cX11_makes 31 = .ok (.iload_n 2, 1) := by decide +kernel
theorem dX11_makes_32 : decode cX11_makes 32 = .ok (.iastore, 1) := by decide +kernel
theorem dX11_makes_33 : decode cX11_makes 33 = .ok (.aload_n 0, 1) := by decide +kernel
theorem dX11_makes_34 : decode cX11_makes 34 = .ok (.getfield 56, 3) := by decide +kernel
theorem dX11_makes_37 : decode cX11_makes 37 = .ok (.aload_n 0, 1) := by decide +kernel
theorem dX11_makes_38 : decode cX11_makes 38 = .ok (.getfield 155, 3) := by decide +kernel
theorem dX11_makes_41 : decode cX11_makes 41 = .ok (.lload_n 3, 1) := by decide +kernel
theorem dX11_makes_42 : decode cX11_makes 42 = .ok (.lastore, 1) := by decide +kernel
theorem dX11_makes_43 : decode cX11_makes 43 = .ok (.aload_n 0, 1) := by decide +kernel
theorem dX11_makes_44 : decode cX11_makes 44 = .ok (.getfield 53, 3) := by decide +kernel
theorem dX11_makes_47 : decode cX11_makes 47 = .ok (.aload_n 0, 1) := by decide +kernel
theorem dX11_makes_48 : decode cX11_makes 48 = .ok (.getfield 155, 3) := by decide +kernel
theorem dX11_makes_51 : decode cX11_makes 51 = .ok (.iload 5, 2) := by decide +kernel
theorem dX11_makes_53 : decode cX11_makes 53 = .ok (.iastore, 1) := by decide +kernel
theorem dX11_makes_54 : decode cX11_makes 54 = .ok (.aload_n 0, 1) := by decide +kernel
theorem dX11_makes_55 : decode cX11_makes 55 = .ok (.getfield 59, 3) := by decide +kernel
theorem dX11_makes_58 : decode cX11_makes 58 = .ok (.aload_n 0, 1) := by decide +kernel
theorem dX11_makes_59 : decode cX11_makes 59 = .ok (.getfield 155, 3) := by decide +kernel
theorem dX11_makes_62 : decode cX11_makes 62 = .ok (.iconst 0, 1) := by decide +kernel
theorem dX11_makes_63 : decode cX11_makes 63 = .ok (.iastore, 1) := by decide +kernel
theorem dX11_makes_64 : decode cX11_makes 64 = .ok (.aload_n 0, 1) := by decide +kernel
theorem dX11_makes_65 : decode cX11_makes 65 = .ok (.dup, 1) := by decide +kernel
theorem dX11_makes_66 : decode cX11_makes 66 = .ok (.getfield 155, 3) := by decide +kernel
theorem dX11_makes_69 : decode cX11_makes 69 = .ok (.iconst 1, 1) := by decide +kernel
theorem dX11_makes_70 : decode cX11_makes 70 = .ok (.iadd, 1) := by decide +kernel
theorem dX11_makes_71 : decode cX11_makes 71 = .ok (.putfield 155, 3) := by decide +kernel
theorem dX11_makes_74 : decode cX11_makes 74 = .ok (.aload_n 0, 1) := by decide +kernel
theorem dX11_makes_75 : decode cX11_makes 75 = .ok (.getfield 155, 3) := by decide +kernel
theorem dX11_makes_78 : decode cX11_makes 78 = .ok (.iconst 1, 1) := by decide +kernel
theorem dX11_makes_79 : decode cX11_makes 79 = .ok (.isub, 1) := by decide +kernel
theorem dX11_makes_80 : decode cX11_makes 80 = .ok (.ireturn, 1) := by decide +kernel
theorem dX11_becomes_0 : decode cX11_becomes 0 = .ok (.aload_n 0, 1) := by decide +kernel
theorem dX11_becomes_1 : decode cX11_becomes 1 = .ok (.getfield 20, 3) := by decide +kernel
theorem dX11_becomes_4 : decode cX11_becomes 4 = .ok (.iload_n 1, 1) := by decide +kernel
theorem dX11_becomes_5 : decode cX11_becomes 5 = .ok (.iload_n 2, 1) := by decide +kernel
theorem dX11_becomes_6 : decode cX11_becomes 6 = .ok (.iconst 1, 1) := by decide +kernel
theorem dX11_becomes_7 : decode cX11_becomes 7 = .ok (.iadd, 1) := by decide +kernel
theorem dX11_becomes_8 : decode cX11_becomes 8 = .ok (.iastore, 1) := by decide +kernel
theorem dX11_becomes_9 : decode cX11_becomes 9 = .ok (.aload_n 0, 1) := by decide +kernel
theorem dX11_becomes_10 : decode cX11_becomes 10 = .ok (.iload_n 2, 1) := by decide +kernel
theorem dX11_becomes_11 : decode cX11_becomes 11 = .ok (.invokevirtual 158, 3) := by decide +kernel
theorem dX11_becomes_14 : decode cX11_becomes 14 = .ok (.ifCond .eq 37, 3) := by decide +kernel
theorem dX11_becomes_17 : decode cX11_becomes 17 = .ok (.aload_n 0, 1) := by decide +kernel
theorem dX11_becomes_18 : decode cX11_becomes 18 = .ok (.getfield 7, 3) := by decide +kernel
theorem dX11_becomes_21 : decode cX11_becomes 21 = .ok (.iload_n 1, 1) := by decide +kernel
theorem dX11_becomes_22 : decode cX11_becomes 22 = .ok (.iconst 1, 1) := by decide +kernel
theorem dX11_becomes_23 : decode cX11_becomes 23 = .ok (.iastore, 1) := by decide +kernel
theorem dX11_becomes_24 : decode cX11_becomes 24 = .ok (.aload_n 0, 1) := by decide +kernel
theorem dX11_becomes_25 : decode cX11_becomes 25 = .ok (.getfield 13, 3) := by decide +kernel
theorem dX11_becomes_28 : decode cX11_becomes 28 = .ok (.iload_n 1, 1) := by decide +kernel
theorem dX11_becomes_29 : decode cX11_becomes 29 = .ok (.aload_n 0, 1) := by decide +kernel
theorem dX11_becomes_30 : decode cX11_becomes 30 = .ok (.getfield 56, 3) := by decide +kernel
theorem dX11_becomes_33 : decode cX11_becomes 33 = .ok (.iload_n 2, 1) := by decide +kernel
theorem dX11_becomes_34 : decode cX11_becomes 34 = .ok (.laload, 1) := by decide +kernel
theorem dX11_becomes_35 : decode cX11_becomes 35 = .ok (.lastore, 1) := by decide +kernel
theorem dX11_becomes_36 : decode cX11_becomes 36 = .ok (.aload_n 0, 1) := by decide +kernel
theorem dX11_becomes_37 : decode cX11_becomes 37 = .ok (.getfield 17, 3) := by decide +kernel
theorem dX11_becomes_40 : decode cX11_becomes 40 = .ok (.iload_n 1, 1) := by decide +kernel
theorem dX11_becomes_41 : decode cX11_becomes 41 = .ok (.aload_n 0, 1) := by decide +kernel
theorem dX11_becomes_42 : decode cX11_becomes 42 = .ok (.getfield 53, 3) := by decide +kernel
theorem dX11_becomes_45 : decode cX11_becomes 45 = .ok (.iload_n 2, 1) := by decide +kernel
theorem dX11_becomes_46 : decode cX11_becomes 46 = .ok (.iaload, 1) := by decide +kernel
theorem dX11_becomes_47 : decode cX11_becomes 47 = .ok (.iastore, 1) := by decide +kernel
theorem dX11_becomes_48 : decode cX11_becomes 48 = .ok (.goto 8, 3) := by decide +kernel
theorem dX11_becomes_51 : decode cX11_becomes 51 = .ok (.aload_n 0, 1) := by decide +kernel
theorem dX11_becomes_52 : decode cX11_becomes 52 = .ok (.iload_n 1, 1) := by decide +kernel
theorem dX11_becomes_53 : decode cX11_becomes 53 = .ok (.invokevirtual 145, 3) := by decide +kernel
theorem dX11_becomes_56 : decode cX11_becomes 56 = .ok (.return_, 1) := by decide +kernel
theorem dX11_may_0 : decode cX11_may 0 = .ok (.iload_n 1, 1) := by decide +kernel
theorem dX11_may_1 : decode cX11_may 1 = .ok (.bipush 16, 2) := by decide +kernel
theorem dX11_may_3 : decode cX11_may 3 = .ok (.idiv, 1) := by decide +kernel
theorem dX11_may_4 : decode cX11_may 4 = .ok (.istore_n 3, 1) := by decide +kernel
theorem dX11_may_5 : decode cX11_may 5 = .ok (.aload_n 0, 1) := by decide +kernel
theorem dX11_may_6 : decode cX11_may 6 = .ok (.iload_n 1, 1) := by decide +kernel
theorem dX11_may_7 : decode cX11_may 7 = .ok (.bipush 16, 2) := by decide +kernel
theorem dX11_may_9 : decode cX11_may 9 = .ok (.irem, 1) := by decide +kernel
theorem dX11_may_10 : decode cX11_may 10 = .ok (.invokevirtual 161, 3) := by decide +kernel
theorem dX11_may_13 : decode cX11_may 13 = .ok (.istore 4, 2) := by decide +kernel
theorem dX11_may_15 : decode cX11_may 15 = .ok (.iload 4, 2) := by decide +kernel
theorem dX11_may_17 : decode cX11_may 17 = .ok (.iconst (-1), 1) := by decide +kernel
theorem dX11_may_18 : decode cX11_may 18 = .ok (.if_icmp .eq 9, 3) := by decide +kernel
theorem dX11_may_21 : decode cX11_may 21 = .ok (.iload 4, 2) := by decide +kernel
theorem dX11_may_23 : decode cX11_may 23 = .ok (.iload_n 3, 1) := by decide +kernel
theorem dX11_may_24 : decode cX11_may 24 = .ok (.if_icmp .ne 7, 3) := by decide +kernel
theorem dX11_may_27 : decode cX11_may 27 = .ok (.iconst 1, 1) := by decide +kernel
theorem dX11_may_28 : decode cX11_may 28 = .ok (.goto 4, 3) := by decide +kernel
theorem dX11_may_31 : decode cX11_may 31 = .ok (.iconst 0, 1) := by decide +kernel
theorem dX11_may_32 : decode cX11_may 32 = .ok (.istore 5, 2) := by decide +kernel
theorem dX11_may_34 : decode cX11_may 34 = .ok (.aload_n 0, 1) := by decide +kernel
theorem dX11_may_35 : decode cX11_may 35 = .ok (.iload_n 2, 1) := by decide +kernel
theorem dX11_may_36 : decode cX11_may 36 = .ok (.invokevirtual 158, 3) := by decide +kernel
theorem dX11_may_39 : decode cX11_may 39 = .ok (.ifCond .eq 30, 3) := by decide +kernel
theorem dX11_may_42 : decode cX11_may 42 = .ok (.iload 5, 2) := by decide +kernel
theorem dX11_may_44 : decode cX11_may 44 = .ok (.ifCond .eq 22, 3) := by decide +kernel
theorem dX11_may_47 : decode cX11_may 47 = .ok (.aload_n 0, 1) := by decide +kernel
theorem dX11_may_48 : decode cX11_may 48 = .ok (.aload_n 0, 1) := by decide +kernel
theorem dX11_may_49 : decode cX11_may 49 = .ok (.getfield 53, 3) := by decide +kernel
theorem dX11_may_52 : decode cX11_may 52 = .ok (.iload_n 2, 1) := by decide +kernel
theorem dX11_may_53 : decode cX11_may 53 = .ok (.iaload, 1) := by decide +kernel
theorem dX11_may_54 : decode cX11_may 54 = .ok (.iload_n 3, 1) := by decide +kernel
theorem dX11_may_55 : decode cX11_may 55 = .ok (.invokevirtual 165, 3) := by decide +kernel
theorem dX11_may_58 : decode cX11_may 58 = .ok (.iconst 2, 1) := by decide +kernel
theorem dX11_may_59 : decode cX11_may 59 = .ok (.if_icmp .ne 7, 3) := by decide +kernel
theorem dX11_may_62 : decode cX11_may 62 = .ok (.iconst 1, 1) := by decide +kernel
theorem dX11_may_63 : decode cX11_may 63 = .ok (.goto 4, 3) := by decide +kernel
theorem dX11_may_66 : decode cX11_may 66 = .ok (.iconst 0, 1) := by decide +kernel
theorem dX11_may_67 : decode cX11_may 67 = .ok (.istore 5, 2) := by decide +kernel
theorem dX11_may_69 : decode cX11_may 69 = .ok (.iload 5, 2) := by decide +kernel
theorem dX11_may_71 : decode cX11_may 71 = .ok (.ifCond .eq 31, 3) := by decide +kernel
theorem dX11_may_74 : decode cX11_may 74 = .ok (.aload_n 0, 1) := by decide +kernel
theorem dX11_may_75 : decode cX11_may 75 = .ok (.getfield 7, 3) := by decide +kernel
theorem dX11_may_78 : decode cX11_may 78 = .ok (.iload_n 1, 1) := by decide +kernel
theorem dX11_may_79 : decode cX11_may 79 = .ok (.iaload, 1) := by decide +kernel
theorem dX11_may_80 : decode cX11_may 80 = .ok (.ifCond .eq 18, 3) := by decide +kernel
theorem dX11_may_83 : decode cX11_may 83 = .ok (.aload_n 0, 1) := by decide +kernel
theorem dX11_may_84 : decode cX11_may 84 = .ok (.aload_n 0, 1) := by decide +kernel
theorem dX11_may_85 : decode cX11_may 85 = .ok (.getfield 17, 3) := by decide +kernel
theorem dX11_may_88 : decode cX11_may 88 = .ok (.iload_n 1, 1) := by decide +kernel
theorem dX11_may_89 : decode cX11_may 89 = .ok (.iaload, 1) := by decide +kernel
theorem dX11_may_90 : decode cX11_may 90 = .ok (.iload_n 3, 1) := by decide +kernel
theorem dX11_may_91 : decode cX11_may 91 = .ok (.invokevirtual 165, 3) := by decide +kernel
theorem dX11_may_94 : decode cX11_may 94 = .ok (.iconst 2, 1) := by decide +kernel
theorem dX11_may_95 : decode cX11_may 95 = .ok (.if_icmp .ne 7, 3) := by decide +kernel
theorem dX11_may_98 : decode cX11_may 98 = .ok (.iconst 1, 1) := by decide +kernel
theorem dX11_may_99 : decode cX11_may 99 = .ok (.goto 4, 3) := by decide +kernel
theorem dX11_may_102 : decode cX11_may 102 = .ok (.iconst 0, 1) := by decide +kernel
theorem dX11_may_103 : decode cX11_may 103 = .ok (.ireturn, 1) := by decide +kernel
theorem dX11_free_0 : decode cX11_free 0 = .ok (.iconst 0, 1) := by decide +kernel
theorem dX11_free_1 : decode cX11_free 1 = .ok (.istore_n 1, 1) := by decide +kernel
theorem dX11_free_2 : decode cX11_free 2 = .ok (.iload_n 1, 1) := by decide +kernel
theorem dX11_free_3 : decode cX11_free 3 = .ok (.bipush 16, 2) := by decide +kernel
theorem dX11_free_5 : decode cX11_free 5 = .ok (.if_icmp .ge 100, 3) := by decide +kernel
theorem dX11_free_8 : decode cX11_free 8 = .ok (.iconst 1, 1) := by decide +kernel
theorem dX11_free_9 : decode cX11_free 9 = .ok (.istore_n 2, 1) := by decide +kernel
theorem dX11_free_10 : decode cX11_free 10 = .ok (.iconst 0, 1) := by decide +kernel
theorem dX11_free_11 : decode cX11_free 11 = .ok (.istore_n 3, 1) := by decide +kernel
theorem dX11_free_12 : decode cX11_free 12 = .ok (.iload_n 3, 1) := by decide +kernel
theorem dX11_free_13 : decode cX11_free 13 = .ok (.aload_n 0, 1) := by decide +kernel
theorem dX11_free_14 : decode cX11_free 14 = .ok (.getfield 155, 3) := by decide +kernel
theorem dX11_free_17 : decode cX11_free 17 = .ok (.if_icmp .ge 39, 3) := by decide +kernel
theorem dX11_free_20 : decode cX11_free 20 = .ok (.iload_n 2, 1) := by decide +kernel
theorem dX11_free_21 : decode cX11_free 21 = .ok (.ifCond .eq 27, 3) := by decide +kernel
theorem dX11_free_24 : decode cX11_free 24 = .ok (.aload_n 0, 1) := by decide +kernel
theorem dX11_free_25 : decode cX11_free 25 = .ok (.getfield 44, 3) := by decide +kernel
theorem dX11_free_28 : decode cX11_free 28 = .ok (.iload_n 3, 1) := by decide +kernel
theorem dX11_free_29 : decode cX11_free 29 = .ok (.iaload, 1) := by decide +kernel
theorem dX11_free_30 : decode cX11_free 30 = .ok (.iload_n 1, 1) := by decide +kernel
theorem dX11_free_31 : decode cX11_free 31 = .ok (.if_icmp .ne 13, 3) := by decide +kernel
theorem dX11_free_34 : decode cX11_free 34 = .ok (.aload_n 0, 1) := by decide +kernel
theorem dX11_free_35 : decode cX11_free 35 = .ok (.getfield 59, 3) := by decide +kernel
theorem dX11_free_38 : decode cX11_free 38 = .ok (.iload_n 3, 1) := by decide +kernel
theorem dX11_free_39 : decode cX11_free 39 = .ok (.iaload, 1) := by decide +kernel
theorem dX11_free_40 : decode cX11_free 40 = .ok (.iconst 1, 1) := by decide +kernel
theorem dX11_free_41 : decode cX11_free 41 = .ok (.if_icmp .ne 7, 3) := by decide +kernel
theorem dX11_free_44 : decode cX11_free 44 = .ok (.iconst 1, 1) := by decide +kernel
theorem dX11_free_45 : decode cX11_free 45 = .ok (.goto 4, 3) := by decide +kernel
theorem dX11_free_48 : decode cX11_free 48 = .ok (.iconst 0, 1) := by decide +kernel
theorem dX11_free_49 : decode cX11_free 49 = .ok (.istore_n 2, 1) := by decide +kernel
theorem dX11_free_50 : decode cX11_free 50 = .ok (.iinc 3 1, 3) := by decide +kernel
theorem dX11_free_53 : decode cX11_free 53 = .ok (.goto (-41), 3) := by decide +kernel
theorem dX11_free_56 : decode cX11_free 56 = .ok (.iconst 0, 1) := by decide +kernel
theorem dX11_free_57 : decode cX11_free 57 = .ok (.istore_n 3, 1) := by decide +kernel
theorem dX11_free_58 : decode cX11_free 58 = .ok (.iload_n 3, 1) := by decide +kernel
theorem dX11_free_59 : decode cX11_free 59 = .ok (.iconst 3, 1) := by decide +kernel
theorem dX11_free_60 : decode cX11_free 60 = .ok (.if_icmp .ge 33, 3) := by decide +kernel
theorem dX11_free_63 : decode cX11_free 63 = .ok (.iload_n 2, 1) := by decide +kernel
theorem dX11_free_64 : decode cX11_free 64 = .ok (.ifCond .eq 21, 3) := by decide +kernel
theorem dX11_free_67 : decode cX11_free 67 = .ok (.aload_n 0, 1) := by decide +kernel
theorem dX11_free_68 : decode cX11_free 68 = .ok (.getfield 7, 3) := by decide +kernel
theorem dX11_free_71 : decode cX11_free 71 = .ok (.bipush 16, 2) := by decide +kernel
theorem dX11_free_73 : decode cX11_free 73 = .ok (.iload_n 3, 1) := by decide +kernel
theorem dX11_free_74 : decode cX11_free 74 = .ok (.imul, 1) := by decide +kernel
theorem dX11_free_75 : decode cX11_free 75 = .ok (.iload_n 1, 1) := by decide +kernel
theorem dX11_free_76 : decode cX11_free 76 = .ok (.iadd, 1) := by decide +kernel
theorem dX11_free_77 : decode cX11_free 77 = .ok (.iaload, 1) := by decide +kernel
theorem dX11_free_78 : decode cX11_free 78 = .ok (.ifCond .ne 7, 3) := by decide +kernel
theorem dX11_free_81 : decode cX11_free 81 = .ok (.iconst 1, 1) := by decide +kernel
theorem dX11_free_82 : decode cX11_free 82 = .ok (.goto 4, 3) := by decide +kernel
theorem dX11_free_85 : decode cX11_free 85 = .ok (.iconst 0, 1) := by decide +kernel
theorem dX11_free_86 : decode cX11_free 86 = .ok (.istore_n 2, 1) := by decide +kernel
theorem dX11_free_87 : decode cX11_free 87 = .ok (.iinc 3 1, 3) := by decide +kernel
theorem dX11_free_90 : decode cX11_free 90 = .ok (.goto (-32), 3) := by decide +kernel
theorem dX11_free_93 : decode cX11_free 93 = .ok (.iload_n 2, 1) := by decide +kernel
theorem dX11_free_94 : decode cX11_free 94 = .ok (.ifCond .eq 5, 3) := by decide +kernel
theorem dX11_free_97 : decode cX11_free 97 = .ok (.iload_n 1, 1) := by decide +kernel
theorem dX11_free_98 : decode cX11_free 98 = .ok (.ireturn, 1) := by decide +kernel
theorem dX11_free_99 : decode cX11_free 99 = .ok (.iinc 1 1, 3) := by decide +kernel
theorem dX11_free_102 : decode cX11_free 102 = .ok (.goto (-100), 3) := by decide +kernel
theorem dX11_free_105 : decode cX11_free 105 = .ok (.iconst (-1), 1) := by decide +kernel
theorem dX11_free_106 : decode cX11_free 106 = .ok (.ireturn, 1) := by decide +kernel
theorem dX11_keepsBoth_0 : decode cX11_keepsBoth 0 = .ok (.aload_n 0, 1) := by decide +kernel
theorem dX11_keepsBoth_1 : decode cX11_keepsBoth 1 = .ok (.aload_n 0, 1) := by decide +kernel
theorem dX11_keepsBoth_2 : decode cX11_keepsBoth 2 = .ok (.getfield 17, 3) := by decide +kernel
theorem dX11_keepsBoth_5 : decode cX11_keepsBoth 5 = .ok (.iload_n 1, 1) := by decide +kernel
theorem dX11_keepsBoth_6 : decode cX11_keepsBoth 6 = .ok (.iaload, 1) := by decide +kernel
theorem dX11_keepsBoth_7 : decode cX11_keepsBoth 7 = .ok (.iload_n 1, 1) := by decide +kernel
theorem dX11_keepsBoth_8 : decode cX11_keepsBoth 8 = .ok (.bipush 16, 2) := by decide +kernel
theorem dX11_keepsBoth_10 : decode cX11_keepsBoth 10 = .ok (.idiv, 1) := by decide +kernel
theorem dX11_keepsBoth_11 : decode cX11_keepsBoth 11 = .ok (.invokevirtual 165, 3) := by decide +kernel
theorem dX11_keepsBoth_14 : decode cX11_keepsBoth 14 = .ok (.iconst 2, 1) := by decide +kernel
theorem dX11_keepsBoth_15 : decode cX11_keepsBoth 15 = .ok (.if_icmp .ne 10, 3) := by decide +kernel
theorem dX11_keepsBoth_18 : decode cX11_keepsBoth 18 = .ok (.aload_n 0, 1) := by decide +kernel
theorem dX11_keepsBoth_19 : decode cX11_keepsBoth 19 = .ok (.invokevirtual 169, 3) := by decide +kernel
theorem dX11_keepsBoth_22 : decode cX11_keepsBoth 22 = .ok (.goto 4, 3) := by decide +kernel
theorem dX11_keepsBoth_25 : decode cX11_keepsBoth 25 = .ok (.iconst (-1), 1) := by decide +kernel
theorem dX11_keepsBoth_26 : decode cX11_keepsBoth 26 = .ok (.istore_n 3, 1) := by decide +kernel
theorem dX11_keepsBoth_27 : decode cX11_keepsBoth 27 = .ok (.iload_n 3, 1) := by decide +kernel
theorem dX11_keepsBoth_28 : decode cX11_keepsBoth 28 = .ok (.iconst (-1), 1) := by decide +kernel
theorem dX11_keepsBoth_29 : decode cX11_keepsBoth 29 = .ok (.if_icmp .ne 15, 3) := by decide +kernel
theorem dX11_keepsBoth_32 : decode cX11_keepsBoth 32 = .ok (.aload_n 0, 1) := by decide +kernel
theorem dX11_keepsBoth_33 : decode cX11_keepsBoth 33 = .ok (.dup, 1) := by decide +kernel
theorem dX11_keepsBoth_34 : decode cX11_keepsBoth 34 = .ok (.getfield 173, 3) := by decide +kernel
theorem dX11_keepsBoth_37 : decode cX11_keepsBoth 37 = .ok (.iconst 1, 1) := by decide +kernel
theorem dX11_keepsBoth_38 : decode cX11_keepsBoth 38 = .ok (.iadd, 1) := by decide +kernel
theorem dX11_keepsBoth_39 : decode cX11_keepsBoth 39 = .ok (.putfield 173, 3) := by decide +kernel
theorem dX11_keepsBoth_42 : decode cX11_keepsBoth 42 = .ok (.iconst 0, 1) := by decide +kernel
theorem dX11_keepsBoth_43 : decode cX11_keepsBoth 43 = .ok (.ireturn, 1) := by decide +kernel
theorem dX11_keepsBoth_44 : decode cX11_keepsBoth 44 = .ok (.iload_n 1, 1) := by decide +kernel
theorem dX11_keepsBoth_45 : decode cX11_keepsBoth 45 = .ok (.bipush 16, 2) := by decide +kernel
theorem dX11_keepsBoth_47 : decode cX11_keepsBoth 47 = .ok (.idiv, 1) := by decide +kernel
theorem dX11_keepsBoth_48 : decode cX11_keepsBoth 48 = .ok (.bipush 16, 2) := by decide +kernel
theorem dX11_keepsBoth_50 : decode cX11_keepsBoth 50 = .ok (.imul, 1) := by decide +kernel
theorem dX11_keepsBoth_51 : decode cX11_keepsBoth 51 = .ok (.iload_n 3, 1) := by decide +kernel
theorem dX11_keepsBoth_52 : decode cX11_keepsBoth 52 = .ok (.iadd, 1) := by decide +kernel
theorem dX11_keepsBoth_53 : decode cX11_keepsBoth 53 = .ok (.istore 4, 2) := by decide +kernel
theorem dX11_keepsBoth_55 : decode cX11_keepsBoth 55 = .ok (.aload_n 0, 1) := by decide +kernel
theorem dX11_keepsBoth_56 : decode cX11_keepsBoth 56 = .ok (.getfield 20, 3) := by decide +kernel
theorem dX11_keepsBoth_59 : decode cX11_keepsBoth 59 = .ok (.iload 4, 2) := by decide +kernel
theorem dX11_keepsBoth_61 : decode cX11_keepsBoth 61 = .ok (.aload_n 0, 1) := by decide +kernel
theorem dX11_keepsBoth_62 : decode cX11_keepsBoth 62 = .ok (.iload_n 3, 1) := by decide +kernel
theorem dX11_keepsBoth_63 : decode cX11_keepsBoth 63 = .ok (.iload_n 1, 1) := by decide +kernel
theorem dX11_keepsBoth_64 : decode cX11_keepsBoth 64 = .ok (.bipush 16, 2) := by decide +kernel
theorem dX11_keepsBoth_66 : decode cX11_keepsBoth 66 = .ok (.idiv, 1) := by decide +kernel
theorem dX11_keepsBoth_67 : decode cX11_keepsBoth 67 = .ok (.aload_n 0, 1) := by decide +kernel
theorem dX11_keepsBoth_68 : decode cX11_keepsBoth 68 = .ok (.getfield 13, 3) := by decide +kernel
theorem dX11_keepsBoth_71 : decode cX11_keepsBoth 71 = .ok (.iload_n 1, 1) := by decide +kernel
theorem dX11_keepsBoth_72 : decode cX11_keepsBoth 72 = .ok (.laload, 1) := by decide +kernel
theorem dX11_keepsBoth_73 : decode cX11_keepsBoth 73 = .ok (.aload_n 0, 1) := by decide +kernel
theorem dX11_keepsBoth_74 : decode cX11_keepsBoth 74 = .ok (.getfield 17, 3) := by decide +kernel
theorem dX11_keepsBoth_77 : decode cX11_keepsBoth 77 = .ok (.iload_n 1, 1) := by decide +kernel
theorem dX11_keepsBoth_78 : decode cX11_keepsBoth 78 = .ok (.iaload, 1) := by decide +kernel
theorem dX11_keepsBoth_79 : decode cX11_keepsBoth 79 = .ok (.invokevirtual 176, 3) := by decide +kernel
theorem dX11_keepsBoth_82 : decode cX11_keepsBoth 82 = .ok (.iconst 1, 1) := by decide +kernel
theorem dX11_keepsBoth_83 : decode cX11_keepsBoth 83 = .ok (.iadd, 1) := by decide +kernel
theorem dX11_keepsBoth_84 : decode cX11_keepsBoth 84 = .ok (.iastore, 1) := by decide +kernel
theorem dX11_keepsBoth_85 : decode cX11_keepsBoth 85 = .ok (.aload_n 0, 1) := by decide +kernel
theorem dX11_keepsBoth_86 : decode cX11_keepsBoth 86 = .ok (.getfield 7, 3) := by decide +kernel
theorem dX11_keepsBoth_89 : decode cX11_keepsBoth 89 = .ok (.iload 4, 2) := by decide +kernel
theorem dX11_keepsBoth_91 : decode cX11_keepsBoth 91 = .ok (.iconst 2, 1) := by decide +kernel
theorem dX11_keepsBoth_92 : decode cX11_keepsBoth 92 = .ok (.iastore, 1) := by decide +kernel
theorem dX11_keepsBoth_93 : decode cX11_keepsBoth 93 = .ok (.aload_n 0, 1) := by decide +kernel
theorem dX11_keepsBoth_94 : decode cX11_keepsBoth 94 = .ok (.getfield 13, 3) := by decide +kernel
theorem dX11_keepsBoth_97 : decode cX11_keepsBoth 97 = .ok (.iload 4, 2) := by decide +kernel
theorem dX11_keepsBoth_99 : decode cX11_keepsBoth 99 = .ok (.aload_n 0, 1) := by decide +kernel
theorem dX11_keepsBoth_100 : decode cX11_keepsBoth 100 = .ok (.getfield 13, 3) := by decide +kernel
theorem dX11_keepsBoth_103 : decode cX11_keepsBoth 103 = .ok (.iload_n 1, 1) := by decide +kernel
theorem dX11_keepsBoth_104 : decode cX11_keepsBoth 104 = .ok (.laload, 1) := by decide +kernel
theorem dX11_keepsBoth_105 : decode cX11_keepsBoth 105 = .ok (.lastore, 1) := by decide +kernel
theorem dX11_keepsBoth_106 : decode cX11_keepsBoth 106 = .ok (.aload_n 0, 1) := by decide +kernel
theorem dX11_keepsBoth_107 : decode cX11_keepsBoth 107 = .ok (.getfield 17, 3) := by decide +kernel
theorem dX11_keepsBoth_110 : decode cX11_keepsBoth 110 = .ok (.iload 4, 2) := by decide +kernel
theorem dX11_keepsBoth_112 : decode cX11_keepsBoth 112 = .ok (.aload_n 0, 1) := by decide +kernel
theorem dX11_keepsBoth_113 : decode cX11_keepsBoth 113 = .ok (.getfield 17, 3) := by decide +kernel
theorem dX11_keepsBoth_116 : decode cX11_keepsBoth 116 = .ok (.iload_n 1, 1) := by decide +kernel
theorem dX11_keepsBoth_117 : decode cX11_keepsBoth 117 = .ok (.iaload, 1) := by decide +kernel
theorem dX11_keepsBoth_118 : decode cX11_keepsBoth 118 = .ok (.iastore, 1) := by decide +kernel
theorem dX11_keepsBoth_119 : decode cX11_keepsBoth 119 = .ok (.aload_n 0, 1) := by decide +kernel
theorem dX11_keepsBoth_120 : decode cX11_keepsBoth 120 = .ok (.iload_n 1, 1) := by decide +kernel
theorem dX11_keepsBoth_121 : decode cX11_keepsBoth 121 = .ok (.iload_n 2, 1) := by decide +kernel
theorem dX11_keepsBoth_122 : decode cX11_keepsBoth 122 = .ok (.invokevirtual 180, 3) := by decide +kernel
theorem dX11_keepsBoth_125 : decode cX11_keepsBoth 125 = .ok (.iconst 1, 1) := by decide +kernel
theorem dX11_keepsBoth_126 : decode cX11_keepsBoth 126 = .ok (.ireturn, 1) := by decide +kernel
theorem dX11_looks_0 : decode cX11_looks 0 = .ok (.aload_n 0, 1) := by decide +kernel
theorem dX11_looks_1 : decode cX11_looks 1 = .ok (.iload_n 1, 1) := by decide +kernel
theorem dX11_looks_2 : decode cX11_looks 2 = .ok (.bipush 16, 2) := by decide +kernel
theorem dX11_looks_4 : decode cX11_looks 4 = .ok (.irem, 1) := by decide +kernel
theorem dX11_looks_5 : decode cX11_looks 5 = .ok (.invokevirtual 184, 3) := by decide +kernel
theorem dX11_looks_8 : decode cX11_looks 8 = .ok (.istore_n 2, 1) := by decide +kernel
theorem dX11_looks_9 : decode cX11_looks 9 = .ok (.aload_n 0, 1) := by decide +kernel
theorem dX11_looks_10 : decode cX11_looks 10 = .ok (.getfield 29, 3) := by decide +kernel
theorem dX11_looks_13 : decode cX11_looks 13 = .ok (.iload_n 1, 1) := by decide +kernel
theorem dX11_looks_14 : decode cX11_looks 14 = .ok (.iconst 0, 1) := by decide +kernel
theorem dX11_looks_15 : decode cX11_looks 15 = .ok (.iastore, 1) := by decide +kernel
theorem dX11_looks_16 : decode cX11_looks 16 = .ok (.iload_n 2, 1) := by decide +kernel
theorem dX11_looks_17 : decode cX11_looks 17 = .ok (.iconst (-1), 1) := by decide +kernel
theorem dX11_looks_18 : decode cX11_looks 18 = .ok (.if_icmp .eq 23, 3) := by decide +kernel
theorem dX11_looks_21 : decode cX11_looks 21 = .ok (.aload_n 0, 1) := by decide +kernel
theorem dX11_looks_22 : decode cX11_looks 22 = .ok (.iload_n 1, 1) := by decide +kernel
theorem dX11_looks_23 : decode cX11_looks 23 = .ok (.iload_n 2, 1) := by decide +kernel
theorem dX11_looks_24 : decode cX11_looks 24 = .ok (.invokevirtual 148, 3) := by decide +kernel
theorem dX11_looks_27 : decode cX11_looks 27 = .ok (.ifCond .eq 14, 3) := by decide +kernel
theorem dX11_looks_30 : decode cX11_looks 30 = .ok (.aload_n 0, 1) := by decide +kernel
theorem dX11_looks_31 : decode cX11_looks 31 = .ok (.getfield 20, 3) := by decide +kernel
theorem dX11_looks_34 : decode cX11_looks 34 = .ok (.iload_n 1, 1) := by decide +kernel
theorem dX11_looks_35 : decode cX11_looks 35 = .ok (.iload_n 2, 1) := by decide +kernel
theorem dX11_looks_36 : decode cX11_looks 36 = .ok (.iconst 1, 1) := by decide +kernel
theorem dX11_looks_37 : decode cX11_looks 37 = .ok (.iadd, 1) := by decide +kernel
theorem dX11_looks_38 : decode cX11_looks 38 = .ok (.iastore, 1) := by decide +kernel
theorem dX11_looks_39 : decode cX11_looks 39 = .ok (.iconst 0, 1) := by decide +kernel
theorem dX11_looks_40 : decode cX11_looks 40 = .ok (.ireturn, 1) := by decide +kernel
theorem dX11_looks_41 : decode cX11_looks 41 = .ok (.aload_n 0, 1) := by decide +kernel
theorem dX11_looks_42 : decode cX11_looks 42 = .ok (.iload_n 1, 1) := by decide +kernel
theorem dX11_looks_43 : decode cX11_looks 43 = .ok (.iload_n 2, 1) := by decide +kernel
theorem dX11_looks_44 : decode cX11_looks 44 = .ok (.invokevirtual 187, 3) := by decide +kernel
theorem dX11_looks_47 : decode cX11_looks 47 = .ok (.istore_n 3, 1) := by decide +kernel
theorem dX11_looks_48 : decode cX11_looks 48 = .ok (.iload_n 2, 1) := by decide +kernel
theorem dX11_looks_49 : decode cX11_looks 49 = .ok (.aload_n 0, 1) := by decide +kernel
theorem dX11_looks_50 : decode cX11_looks 50 = .ok (.getfield 20, 3) := by decide +kernel
theorem dX11_looks_53 : decode cX11_looks 53 = .ok (.iload_n 1, 1) := by decide +kernel
theorem dX11_looks_54 : decode cX11_looks 54 = .ok (.iaload, 1) := by decide +kernel
theorem dX11_looks_55 : decode cX11_looks 55 = .ok (.iconst 1, 1) := by decide +kernel
theorem dX11_looks_56 : decode cX11_looks 56 = .ok (.isub, 1) := by decide +kernel
theorem dX11_looks_57 : decode cX11_looks 57 = .ok (.if_icmp .ne 7, 3) := by decide +kernel
theorem dX11_looks_60 : decode cX11_looks 60 = .ok (.iconst 1, 1) := by decide +kernel
theorem dX11_looks_61 : decode cX11_looks 61 = .ok (.goto 4, 3) := by decide +kernel
theorem dX11_looks_64 : decode cX11_looks 64 = .ok (.iconst 0, 1) := by decide +kernel
theorem dX11_looks_65 : decode cX11_looks 65 = .ok (.istore 4, 2) := by decide +kernel
theorem dX11_looks_67 : decode cX11_looks 67 = .ok (.iload_n 2, 1) := by decide +kernel
theorem dX11_looks_68 : decode cX11_looks 68 = .ok (.iconst (-1), 1) := by decide +kernel
theorem dX11_looks_69 : decode cX11_looks 69 = .ok (.if_icmp .eq 18, 3) := by decide +kernel
theorem dX11_looks_72 : decode cX11_looks 72 = .ok (.aload_n 0, 1) := by decide +kernel
theorem dX11_looks_73 : decode cX11_looks 73 = .ok (.getfield 56, 3) := by decide +kernel
theorem dX11_looks_76 : decode cX11_looks 76 = .ok (.iload_n 2, 1) := by decide +kernel
theorem dX11_looks_77 : decode cX11_looks 77 = .ok (.laload, 1) := by decide +kernel
theorem dX11_looks_78 : decode cX11_looks 78 = .ok (.lconst 0, 1) := by decide +kernel
theorem dX11_looks_79 : decode cX11_looks 79 = .ok (.lcmp, 1) := by decide +kernel
theorem dX11_looks_80 : decode cX11_looks 80 = .ok (.ifCond .ne 7, 3) := by decide +kernel
theorem dX11_looks_83 : decode cX11_looks 83 = .ok (.iconst 1, 1) := by decide +kernel
theorem dX11_looks_84 : decode cX11_looks 84 = .ok (.goto 4, 3) := by decide +kernel
theorem dX11_looks_87 : decode cX11_looks 87 = .ok (.iconst 0, 1) := by decide +kernel
theorem dX11_looks_88 : decode cX11_looks 88 = .ok (.istore 5, 2) := by decide +kernel
theorem dX11_looks_90 : decode cX11_looks 90 = .ok (.aload_n 0, 1) := by decide +kernel
theorem dX11_looks_91 : decode cX11_looks 91 = .ok (.dup, 1) := by decide +kernel
theorem dX11_looks_92 : decode cX11_looks 92 = .ok (.getfield 190, 3) := by decide +kernel
theorem dX11_looks_95 : decode cX11_looks 95 = .ok (.iload_n 3, 1) := by decide +kernel
theorem dX11_looks_96 : decode cX11_looks 96 = .ok (.ifCond .eq 12, 3) := by decide +kernel
theorem dX11_looks_99 : decode cX11_looks 99 = .ok (.iload 4, 2) := by decide +kernel
theorem dX11_looks_101 : decode cX11_looks 101 = .ok (.ifCond .eq 7, 3) := by decide +kernel
theorem dX11_looks_104 : decode cX11_looks 104 = .ok (.iconst 0, 1) := by decide +kernel
theorem dX11_looks_105 : decode cX11_looks 105 = .ok (.goto 4, 3) := by decide +kernel
theorem dX11_looks_108 : decode cX11_looks 108 = .ok (.iconst 1, 1) := by decide +kernel
theorem dX11_looks_109 : decode cX11_looks 109 = .ok (.iadd, 1) := by decide +kernel
theorem dX11_looks_110 : decode cX11_looks 110 = .ok (.putfield 190, 3) := by decide +kernel
theorem dX11_looks_113 : decode cX11_looks 113 = .ok (.iload_n 3, 1) := by decide +kernel
theorem dX11_looks_114 : decode cX11_looks 114 = .ok (.ifCond .eq 8, 3) := by decide +kernel
theorem dX11_looks_117 : decode cX11_looks 117 = .ok (.iload 4, 2) := by decide +kernel
theorem dX11_looks_119 : decode cX11_looks 119 = .ok (.ifCond .ne 21, 3) := by decide +kernel
theorem dX11_looks_122 : decode cX11_looks 122 = .ok (.aload_n 0, 1) := by decide +kernel
theorem dX11_looks_123 : decode cX11_looks 123 = .ok (.getfield 7, 3) := by decide +kernel
theorem dX11_looks_126 : decode cX11_looks 126 = .ok (.iload_n 1, 1) := by decide +kernel
theorem dX11_looks_127 : decode cX11_looks 127 = .ok (.iaload, 1) := by decide +kernel
theorem dX11_looks_128 : decode cX11_looks 128 = .ok (.ifCond .eq 46, 3) := by decide +kernel
theorem dX11_looks_131 : decode cX11_looks 131 = .ok (.iload 5, 2) := by decide +kernel
theorem dX11_looks_133 : decode cX11_looks 133 = .ok (.ifCond .eq 41, 3) := by decide +kernel
theorem dX11_looks_136 : decode cX11_looks 136 = .ok (.iload_n 3, 1) := by decide +kernel
theorem dX11_looks_137 : decode cX11_looks 137 = .ok (.ifCond .eq 37, 3) := by decide +kernel
theorem dX11_looks_140 : decode cX11_looks 140 = .ok (.aload_n 0, 1) := by decide +kernel
theorem dX11_looks_141 : decode cX11_looks 141 = .ok (.getfield 20, 3) := by decide +kernel
theorem dX11_looks_144 : decode cX11_looks 144 = .ok (.iload_n 1, 1) := by decide +kernel
theorem dX11_looks_145 : decode cX11_looks 145 = .ok (.aload_n 0, 1) := by decide +kernel
theorem dX11_looks_146 : decode cX11_looks 146 = .ok (.iload_n 1, 1) := by decide +kernel
theorem dX11_looks_147 : decode cX11_looks 147 = .ok (.bipush 16, 2) := by decide +kernel
theorem dX11_looks_149 : decode cX11_looks 149 = .ok (.irem, 1) := by decide +kernel
theorem dX11_looks_150 : decode cX11_looks 150 = .ok (.iload_n 1, 1) := by decide +kernel
theorem dX11_looks_151 : decode cX11_looks 151 = .ok (.bipush 16, 2) := by decide +kernel
theorem dX11_looks_153 : decode cX11_looks 153 = .ok (.idiv, 1) := by decide +kernel
theorem dX11_looks_154 : decode cX11_looks 154 = .ok (.aload_n 0, 1) := by decide +kernel
theorem dX11_looks_155 : decode cX11_looks 155 = .ok (.getfield 13, 3) := by decide +kernel
theorem dX11_looks_158 : decode cX11_looks 158 = .ok (.iload_n 1, 1) := by decide +kernel
theorem dX11_looks_159 : decode cX11_looks 159 = .ok (.laload, 1) := by decide +kernel
theorem dX11_looks_160 : decode cX11_looks 160 = .ok (.aload_n 0, 1) := by decide +kernel
theorem dX11_looks_161 : decode cX11_looks 161 = .ok (.getfield 17, 3) := by decide +kernel
theorem dX11_looks_164 : decode cX11_looks 164 = .ok (.iload_n 1, 1) := by decide +kernel
theorem dX11_looks_165 : decode cX11_looks 165 = .ok (.iaload, 1) := by decide +kernel
theorem dX11_looks_166 : decode cX11_looks 166 = .ok (.invokevirtual 176, 3) := by decide +kernel
theorem dX11_looks_169 : decode cX11_looks 169 = .ok (.iconst 1, 1) := by decide +kernel
theorem dX11_looks_170 : decode cX11_looks 170 = .ok (.iadd, 1) := by decide +kernel
theorem dX11_looks_171 : decode cX11_looks 171 = .ok (.iastore, 1) := by decide +kernel
theorem dX11_looks_172 : decode cX11_looks 172 = .ok (.iconst 1, 1) := by decide +kernel
theorem dX11_looks_173 : decode cX11_looks 173 = .ok (.ireturn, 1) := by decide +kernel
theorem dX11_looks_174 : decode cX11_looks 174 = .ok (.aload_n 0, 1) := by decide +kernel
theorem dX11_looks_175 : decode cX11_looks 175 = .ok (.getfield 7, 3) := by decide +kernel
theorem dX11_looks_178 : decode cX11_looks 178 = .ok (.iload_n 1, 1) := by decide +kernel
theorem dX11_looks_179 : decode cX11_looks 179 = .ok (.iaload, 1) := by decide +kernel
theorem dX11_looks_180 : decode cX11_looks 180 = .ok (.ifCond .ne 11, 3) := by decide +kernel
theorem dX11_looks_183 : decode cX11_looks 183 = .ok (.aload_n 0, 1) := by decide +kernel
theorem dX11_looks_184 : decode cX11_looks 184 = .ok (.iload_n 1, 1) := by decide +kernel
theorem dX11_looks_185 : decode cX11_looks 185 = .ok (.iload_n 2, 1) := by decide +kernel
theorem dX11_looks_186 : decode cX11_looks 186 = .ok (.invokevirtual 180, 3) := by decide +kernel
theorem dX11_looks_189 : decode cX11_looks 189 = .ok (.iconst 0, 1) := by decide +kernel
theorem dX11_looks_190 : decode cX11_looks 190 = .ok (.ireturn, 1) := by decide +kernel
theorem dX11_looks_191 : decode cX11_looks 191 = .ok (.aload_n 0, 1) := by decide +kernel
theorem dX11_looks_192 : decode cX11_looks 192 = .ok (.iload_n 1, 1) := by decide +kernel
theorem dX11_looks_193 : decode cX11_looks 193 = .ok (.iload_n 2, 1) := by decide +kernel
theorem dX11_looks_194 : decode cX11_looks 194 = .ok (.invokevirtual 193, 3) := by decide +kernel
theorem dX11_looks_197 : decode cX11_looks 197 = .ok (.ifCond .eq 7, 3) := by decide +kernel
theorem dX11_looks_200 : decode cX11_looks 200 = .ok (.iconst 1, 1) := by decide +kernel
theorem dX11_looks_201 : decode cX11_looks 201 = .ok (.goto 4, 3) := by decide +kernel
theorem dX11_looks_204 : decode cX11_looks 204 = .ok (.iconst 0, 1) := by decide +kernel
theorem dX11_looks_205 : decode cX11_looks 205 = .ok (.ireturn, 1) := by decide +kernel
theorem dX11_comesToHouse_0 : decode cX11_comesToHouse 0 = .ok (.aload_n 0, 1) := by decide +kernel
theorem dX11_comesToHouse_1 : decode cX11_comesToHouse 1 = .ok (.getfield 196, 3) := by decide +kernel
theorem dX11_comesToHouse_4 : decode cX11_comesToHouse 4 = .ok (.ifCond .eq 18, 3) := by decide +kernel
theorem dX11_comesToHouse_7 : decode cX11_comesToHouse 7 = .ok (.aload_n 0, 1) := by decide +kernel
theorem dX11_comesToHouse_8 : decode cX11_comesToHouse 8 = .ok (.getfield 92, 3) := by decide +kernel
theorem dX11_comesToHouse_11 : decode cX11_comesToHouse 11 = .ok (.aload_n 0, 1) := by decide +kernel
theorem dX11_comesToHouse_12 : decode cX11_comesToHouse 12 = .ok (.getfield 196, 3) := by decide +kernel
theorem dX11_comesToHouse_15 : decode cX11_comesToHouse 15 = .ok (.iconst 1, 1) := by decide +kernel
theorem dX11_comesToHouse_16 : decode cX11_comesToHouse 16 = .ok (.isub, 1) := by decide +kernel
theorem dX11_comesToHouse_17 : decode cX11_comesToHouse 17 = .ok (.iaload, 1) := by decide +kernel
theorem dX11_comesToHouse_18 : decode cX11_comesToHouse 18 = .ok (.iconst 5, 1) := by decide +kernel
theorem dX11_comesToHouse_19 : decode cX11_comesToHouse 19 = .ok (.if_icmp .lt 13, 3) := by decide +kernel
theorem dX11_comesToHouse_22 : decode cX11_comesToHouse 22 = .ok (.aload_n 0, 1) := by decide +kernel
theorem dX11_comesToHouse_23 : decode cX11_comesToHouse 23 = .ok (.dup, 1) := by decide +kernel
theorem dX11_comesToHouse_24 : decode cX11_comesToHouse 24 = .ok (.getfield 196, 3) := by decide +kernel
theorem dX11_comesToHouse_27 : decode cX11_comesToHouse 27 = .ok (.iconst 1, 1) := by decide +kernel
theorem dX11_comesToHouse_28 : decode cX11_comesToHouse 28 = .ok (.iadd, 1) := by decide +kernel
theorem dX11_comesToHouse_29 : decode cX11_comesToHouse 29 = .ok (.putfield 196, 3) := by decide +kernel
theorem dX11_comesToHouse_32 : decode cX11_comesToHouse 32 = .ok (.aload_n 0, 1) := by decide +kernel
theorem dX11_comesToHouse_33 : decode cX11_comesToHouse 33 = .ok (.getfield 83, 3) := by decide +kernel
theorem dX11_comesToHouse_36 : decode cX11_comesToHouse 36 = .ok (.iload_n 1, 1) := by decide +kernel
theorem dX11_comesToHouse_37 : decode cX11_comesToHouse 37 = .ok (.aload_n 0, 1) := by decide +kernel
theorem dX11_comesToHouse_38 : decode cX11_comesToHouse 38 = .ok (.getfield 196, 3) := by decide +kernel
theorem dX11_comesToHouse_41 : decode cX11_comesToHouse 41 = .ok (.iastore, 1) := by decide +kernel
theorem dX11_comesToHouse_42 : decode cX11_comesToHouse 42 = .ok (.aload_n 0, 1) := by decide +kernel
theorem dX11_comesToHouse_43 : decode cX11_comesToHouse 43 = .ok (.getfield 92, 3) := by decide +kernel
theorem dX11_comesToHouse_46 : decode cX11_comesToHouse 46 = .ok (.aload_n 0, 1) := by decide +kernel
theorem dX11_comesToHouse_47 : decode cX11_comesToHouse 47 = .ok (.getfield 196, 3) := by decide +kernel
theorem dX11_comesToHouse_50 : decode cX11_comesToHouse 50 = .ok (.iconst 1, 1) := by decide +kernel
theorem dX11_comesToHouse_51 : decode cX11_comesToHouse 51 = .ok (.isub, 1) := by decide +kernel
theorem dX11_comesToHouse_52 : decode cX11_comesToHouse 52 = .ok (.dup2, 1) := by decide +kernel
theorem dX11_comesToHouse_53 : decode cX11_comesToHouse 53 = .ok (.iaload, 1) := by decide +kernel
theorem dX11_comesToHouse_54 : decode cX11_comesToHouse 54 = .ok (.iconst 1, 1) := by decide +kernel
theorem dX11_comesToHouse_55 : decode cX11_comesToHouse 55 = .ok (.iadd, 1) := by decide +kernel
theorem dX11_comesToHouse_56 : decode cX11_comesToHouse 56 = .ok (.iastore, 1) := by decide +kernel
theorem dX11_comesToHouse_57 : decode cX11_comesToHouse 57 = .ok (.aload_n 0, 1) := by decide +kernel
theorem dX11_comesToHouse_58 : decode cX11_comesToHouse 58 = .ok (.getfield 86, 3) := by decide +kernel
theorem dX11_comesToHouse_61 : decode cX11_comesToHouse 61 = .ok (.iload_n 1, 1) := by decide +kernel
theorem dX11_comesToHouse_62 : decode cX11_comesToHouse 62 = .ok (.iconst 0, 1) := by decide +kernel
theorem dX11_comesToHouse_63 : decode cX11_comesToHouse 63 = .ok (.iastore, 1) := by decide +kernel
theorem dX11_comesToHouse_64 : decode cX11_comesToHouse 64 = .ok (.aload_n 0, 1) := by decide +kernel
theorem dX11_comesToHouse_65 : decode cX11_comesToHouse 65 = .ok (.dup, 1) := by decide +kernel
theorem dX11_comesToHouse_66 : decode cX11_comesToHouse 66 = .ok (.getfield 199, 3) := by decide +kernel
theorem dX11_comesToHouse_69 : decode cX11_comesToHouse 69 = .ok (.iconst 1, 1) := by decide +kernel
theorem dX11_comesToHouse_70 : decode cX11_comesToHouse 70 = .ok (.iadd, 1) := by decide +kernel
theorem dX11_comesToHouse_71 : decode cX11_comesToHouse 71 = .ok (.putfield 199, 3) := by decide +kernel
theorem dX11_comesToHouse_74 : decode cX11_comesToHouse 74 = .ok (.return_, 1) := by decide +kernel
theorem dX11_sends_0 : decode cX11_sends 0 = .ok (.aload_n 0, 1) := by decide +kernel
theorem dX11_sends_1 : decode cX11_sends 1 = .ok (.lload_n 1, 1) := by decide +kernel
theorem dX11_sends_2 : decode cX11_sends 2 = .ok (.invokevirtual 202, 3) := by decide +kernel
theorem dX11_sends_5 : decode cX11_sends 5 = .ok (.istore 4, 2) := by decide +kernel
theorem dX11_sends_7 : decode cX11_sends 7 = .ok (.iload_n 3, 1) := by decide +kernel
theorem dX11_sends_8 : decode cX11_sends 8 = .ok (.istore 5, 2) := by decide +kernel
theorem dX11_sends_10 : decode cX11_sends 10 = .ok (.iconst 0, 1) := by decide +kernel
theorem dX11_sends_11 : decode cX11_sends 11 = .ok (.istore 6, 2) := by decide +kernel
theorem dX11_sends_13 : decode cX11_sends 13 = .ok (.iload 6, 2) := by decide +kernel
theorem dX11_sends_15 : decode cX11_sends 15 = .ok (.iload 4, 2) := by decide +kernel
theorem dX11_sends_17 : decode cX11_sends 17 = .ok (.if_icmp .ge 45, 3) := by decide +kernel
theorem dX11_sends_20 : decode cX11_sends 20 = .ok (.aload_n 0, 1) := by decide +kernel
theorem dX11_sends_21 : decode cX11_sends 21 = .ok (.getfield 83, 3) := by decide +kernel
theorem dX11_sends_24 : decode cX11_sends 24 = .ok (.aload_n 0, 1) := by decide +kernel
theorem dX11_sends_25 : decode cX11_sends 25 = .ok (.getfield 95, 3) := by decide +kernel
theorem dX11_sends_28 : decode cX11_sends 28 = .ok (.iload 6, 2) := by decide +kernel
theorem dX11_sends_30 : decode cX11_sends 30 = .ok (.iaload, 1) := by decide +kernel
theorem dX11_sends_31 : decode cX11_sends 31 = .ok (.iaload, 1) := by decide +kernel
theorem dX11_sends_32 : decode cX11_sends 32 = .ok (.ifCond .ne 24, 3) := by decide +kernel
theorem dX11_sends_35 : decode cX11_sends 35 = .ok (.iload 5, 2) := by decide +kernel
theorem dX11_sends_37 : decode cX11_sends 37 = .ok (.ifCond .ne 5, 3) := by decide +kernel
theorem dX11_sends_40 : decode cX11_sends 40 = .ok (.iconst (-1), 1) := by decide +kernel
theorem dX11_sends_41 : decode cX11_sends 41 = .ok (.ireturn, 1) := by decide +kernel
theorem dX11_sends_42 : decode cX11_sends 42 = .ok (.aload_n 0, 1) := by decide +kernel
theorem dX11_sends_43 : decode cX11_sends 43 = .ok (.aload_n 0, 1) := by decide +kernel
theorem dX11_sends_44 : decode cX11_sends 44 = .ok (.getfield 95, 3) := by decide +kernel
theorem dX11_sends_47 : decode cX11_sends 47 = .ok (.iload 6, 2) := by decide +kernel
theorem dX11_sends_49 : decode cX11_sends 49 = .ok (.iaload, 1) := by decide +kernel
theorem dX11_sends_50 : decode cX11_sends 50 = .ok (.invokevirtual 205, 3) := by decide +kernel
theorem dX11_sends_53 : decode cX11_sends 53 = .ok (.iinc 5 (-1), 3) := by decide +kernel
theorem dX11_sends_56 : decode cX11_sends 56 = .ok (.iinc 6 1, 3) := by decide +kernel
theorem dX11_sends_59 : decode cX11_sends 59 = .ok (.goto (-46), 3) := by decide +kernel
theorem dX11_sends_62 : decode cX11_sends 62 = .ok (.iload 5, 2) := by decide +kernel
theorem dX11_sends_64 : decode cX11_sends 64 = .ok (.ireturn, 1) := by decide +kernel
theorem dX11_firstNoted_0 : decode cX11_firstNoted 0 = .ok (.iconst (-1), 1) := by decide +kernel
theorem dX11_firstNoted_1 : decode cX11_firstNoted 1 = .ok (.istore_n 2, 1) := by decide +kernel
theorem dX11_firstNoted_2 : decode cX11_firstNoted 2 = .ok (.bipush 16, 2) := by decide +kernel
theorem dX11_firstNoted_4 : decode cX11_firstNoted 4 = .ok (.iload_n 1, 1) := by decide +kernel
theorem dX11_firstNoted_5 : decode cX11_firstNoted 5 = .ok (.imul, 1) := by decide +kernel
theorem dX11_firstNoted_6 : decode cX11_firstNoted 6 = .ok (.istore_n 3, 1) := by decide +kernel
theorem dX11_firstNoted_7 : decode cX11_firstNoted 7 = .ok (.iload_n 3, 1) := by decide +kernel
theorem dX11_firstNoted_8 : decode cX11_firstNoted 8 = .ok (.bipush 16, 2) := by decide +kernel
theorem dX11_firstNoted_10 : decode cX11_firstNoted 10 = .ok (.iload_n 1, 1) := by decide +kernel
theorem dX11_firstNoted_11 : decode cX11_firstNoted 11 = .ok (.imul, 1) := by decide +kernel
theorem dX11_firstNoted_12 : decode cX11_firstNoted 12 = .ok (.bipush 16, 2) := by decide +kernel
theorem dX11_firstNoted_14 : decode cX11_firstNoted 14 = .ok (.iadd, 1) := by decide +kernel
theorem dX11_firstNoted_15 : decode cX11_firstNoted 15 = .ok (.if_icmp .ge 44, 3) := by decide +kernel
theorem dX11_firstNoted_18 : decode cX11_firstNoted 18 = .ok (.aload_n 0, 1) := by decide +kernel
theorem dX11_firstNoted_19 : decode cX11_firstNoted 19 = .ok (.getfield 29, 3) := by decide +kernel
theorem dX11_firstNoted_22 : decode cX11_firstNoted 22 = .ok (.iload_n 3, 1) := by decide +kernel
theorem dX11_firstNoted_23 : decode cX11_firstNoted 23 = .ok (.iaload, 1) := by decide +kernel
theorem dX11_firstNoted_24 : decode cX11_firstNoted 24 = .ok (.ifCond .le 27, 3) := by decide +kernel
theorem dX11_firstNoted_27 : decode cX11_firstNoted 27 = .ok (.iload_n 2, 1) := by decide +kernel
theorem dX11_firstNoted_28 : decode cX11_firstNoted 28 = .ok (.iconst (-1), 1) := by decide +kernel
theorem dX11_firstNoted_29 : decode cX11_firstNoted 29 = .ok (.if_icmp .eq 18, 3) := by decide +kernel
theorem dX11_firstNoted_32 : decode cX11_firstNoted 32 = .ok (.aload_n 0, 1) := by decide +kernel
theorem dX11_firstNoted_33 : decode cX11_firstNoted 33 = .ok (.getfield 29, 3) := by decide +kernel
theorem dX11_firstNoted_36 : decode cX11_firstNoted 36 = .ok (.iload_n 3, 1) := by decide +kernel
theorem dX11_firstNoted_37 : decode cX11_firstNoted 37 = .ok (.iaload, 1) := by decide +kernel
theorem dX11_firstNoted_38 : decode cX11_firstNoted 38 = .ok (.aload_n 0, 1) := by decide +kernel
theorem dX11_firstNoted_39 : decode cX11_firstNoted 39 = .ok (.getfield 29, 3) := by decide +kernel
theorem dX11_firstNoted_42 : decode cX11_firstNoted 42 = .ok (.iload_n 2, 1) := by decide +kernel
theorem dX11_firstNoted_43 : decode cX11_firstNoted 43 = .ok (.iaload, 1) := by decide +kernel
theorem dX11_firstNoted_44 : decode cX11_firstNoted 44 = .ok (.if_icmp .ge 7, 3) := by decide +kernel
theorem dX11_firstNoted_47 : decode cX11_firstNoted 47 = .ok (.iload_n 3, 1) := by decide +kernel
theorem dX11_firstNoted_48 : decode cX11_firstNoted 48 = .ok (.goto 4, 3) := by decide +kernel
theorem dX11_firstNoted_51 : decode cX11_firstNoted 51 = .ok (.iload_n 2, 1) := by decide +kernel
theorem dX11_firstNoted_52 : decode cX11_firstNoted 52 = .ok (.istore_n 2, 1) := by decide +kernel
theorem dX11_firstNoted_53 : decode cX11_firstNoted 53 = .ok (.iinc 3 1, 3) := by decide +kernel
theorem dX11_firstNoted_56 : decode cX11_firstNoted 56 = .ok (.goto (-49), 3) := by decide +kernel
theorem dX11_firstNoted_59 : decode cX11_firstNoted 59 = .ok (.iload_n 2, 1) := by decide +kernel
theorem dX11_firstNoted_60 : decode cX11_firstNoted 60 = .ok (.ireturn, 1) := by decide +kernel
theorem dX11_upload_0 : decode cX11_upload 0 = .ok (.aload_n 0, 1) := by decide +kernel
theorem dX11_upload_1 : decode cX11_upload 1 = .ok (.iload_n 1, 1) := by decide +kernel
theorem dX11_upload_2 : decode cX11_upload 2 = .ok (.invokestatic 135, 3) := by decide +kernel
theorem dX11_upload_5 : decode cX11_upload 5 = .ok (.ifCond .ne 7, 3) := by decide +kernel
theorem dX11_upload_8 : decode cX11_upload 8 = .ok (.iconst 1, 1) := by decide +kernel
theorem dX11_upload_9 : decode cX11_upload 9 = .ok (.goto 31, 3) := by decide +kernel
theorem dX11_upload_12 : decode cX11_upload 12 = .ok (.iload_n 2, 1) := by decide +kernel
theorem dX11_upload_13 : decode cX11_upload 13 = .ok (.iconst 0, 1) := by decide +kernel
theorem dX11_upload_14 : decode cX11_upload 14 = .ok (.bipush 100, 2) := by decide +kernel
theorem dX11_upload_16 : decode cX11_upload 16 = .ok (.invokestatic 105, 3) := by decide +kernel
theorem dX11_upload_19 : decode cX11_upload 19 = .ok (.ifCond .ne 7, 3) := by decide +kernel
theorem dX11_upload_22 : decode cX11_upload 22 = .ok (.iconst 2, 1) := by decide +kernel
theorem dX11_upload_23 : decode cX11_upload 23 = .ok (.goto 17, 3) := by decide +kernel
theorem dX11_upload_26 : decode cX11_upload 26 = .ok (.aload_n 0, 1) := by decide +kernel
theorem dX11_upload_27 : decode cX11_upload 27 = .ok (.getfield 155, 3) := by decide +kernel
theorem dX11_upload_30 : decode cX11_upload 30 = .ok (.bipush 100, 2) := by decide +kernel
theorem dX11_upload_32 : decode cX11_upload 32 = .ok (.if_icmp .le 7, 3) := by decide +kernel
theorem dX11_upload_35 : decode cX11_upload 35 = .ok (.iconst 3, 1) := by decide +kernel
theorem dX11_upload_36 : decode cX11_upload 36 = .ok (.goto 4, 3) := by decide +kernel
theorem dX11_upload_39 : decode cX11_upload 39 = .ok (.iconst 0, 1) := by decide +kernel
theorem dX11_upload_40 : decode cX11_upload 40 = .ok (.putfield 101, 3) := by decide +kernel
theorem dX11_upload_43 : decode cX11_upload 43 = .ok (.iconst 0, 1) := by decide +kernel
theorem dX11_upload_44 : decode cX11_upload 44 = .ok (.istore_n 3, 1) := by decide +kernel
theorem dX11_upload_45 : decode cX11_upload 45 = .ok (.iload_n 2, 1) := by decide +kernel
theorem dX11_upload_46 : decode cX11_upload 46 = .ok (.istore 4, 2) := by decide +kernel
theorem dX11_upload_48 : decode cX11_upload 48 = .ok (.aload_n 0, 1) := by decide +kernel
theorem dX11_upload_49 : decode cX11_upload 49 = .ok (.getfield 101, 3) := by decide +kernel
theorem dX11_upload_52 : decode cX11_upload 52 = .ok (.ifCond .le 7, 3) := by decide +kernel
theorem dX11_upload_55 : decode cX11_upload 55 = .ok (.iconst (-1), 1) := by decide +kernel
theorem dX11_upload_56 : decode cX11_upload 56 = .ok (.goto 8, 3) := by decide +kernel
theorem dX11_upload_59 : decode cX11_upload 59 = .ok (.aload_n 0, 1) := by decide +kernel
theorem dX11_upload_60 : decode cX11_upload 60 = .ok (.iload_n 1, 1) := by decide +kernel
theorem dX11_upload_61 : decode cX11_upload 61 = .ok (.invokevirtual 208, 3) := by decide +kernel
theorem dX11_upload_64 : decode cX11_upload 64 = .ok (.istore 5, 2) := by decide +kernel
theorem dX11_upload_66 : decode cX11_upload 66 = .ok (.iload 5, 2) := by decide +kernel
theorem dX11_upload_68 : decode cX11_upload 68 = .ok (.iconst (-1), 1) := by decide +kernel
theorem dX11_upload_69 : decode cX11_upload 69 = .ok (.if_icmp .eq 89, 3) := by decide +kernel
theorem dX11_upload_72 : decode cX11_upload 72 = .ok (.iload 4, 2) := by decide +kernel
theorem dX11_upload_74 : decode cX11_upload 74 = .ok (.iconst (-1), 1) := by decide +kernel
theorem dX11_upload_75 : decode cX11_upload 75 = .ok (.if_icmp .eq 83, 3) := by decide +kernel
theorem dX11_upload_78 : decode cX11_upload 78 = .ok (.aload_n 0, 1) := by decide +kernel
theorem dX11_upload_79 : decode cX11_upload 79 = .ok (.iload 5, 2) := by decide +kernel
theorem dX11_upload_81 : decode cX11_upload 81 = .ok (.invokevirtual 152, 3) := by decide +kernel
theorem dX11_upload_84 : decode cX11_upload 84 = .ok (.ifCond .ne 14, 3) := by decide +kernel
theorem dX11_upload_87 : decode cX11_upload 87 = .ok (.aload_n 0, 1) := by decide +kernel
theorem dX11_upload_88 : decode cX11_upload 88 = .ok (.getfield 29, 3) := by decide +kernel
theorem dX11_upload_91 : decode cX11_upload 91 = .ok (.iload 5, 2) := by decide +kernel
theorem dX11_upload_93 : decode cX11_upload 93 = .ok (.iconst 0, 1) := by decide +kernel
theorem dX11_upload_94 : decode cX11_upload 94 = .ok (.iastore, 1) := by decide +kernel
theorem dX11_upload_95 : decode cX11_upload 95 = .ok (.goto 53, 3) := by decide +kernel
theorem dX11_upload_98 : decode cX11_upload 98 = .ok (.aload_n 0, 1) := by decide +kernel
theorem dX11_upload_99 : decode cX11_upload 99 = .ok (.getfield 7, 3) := by decide +kernel
theorem dX11_upload_102 : decode cX11_upload 102 = .ok (.iload 5, 2) := by decide +kernel
theorem dX11_upload_104 : decode cX11_upload 104 = .ok (.iaload, 1) := by decide +kernel
theorem dX11_upload_105 : decode cX11_upload 105 = .ok (.iconst 2, 1) := by decide +kernel
theorem dX11_upload_106 : decode cX11_upload 106 = .ok (.if_icmp .ne 19, 3) := by decide +kernel
theorem dX11_upload_109 : decode cX11_upload 109 = .ok (.aload_n 0, 1) := by decide +kernel
theorem dX11_upload_110 : decode cX11_upload 110 = .ok (.aload_n 0, 1) := by decide +kernel
theorem dX11_upload_111 : decode cX11_upload 111 = .ok (.getfield 13, 3) := by decide +kernel
theorem dX11_upload_114 : decode cX11_upload 114 = .ok (.iload 5, 2) := by decide +kernel
theorem dX11_upload_116 : decode cX11_upload 116 = .ok (.laload, 1) := by decide +kernel
theorem dX11_upload_117 : decode cX11_upload 117 = .ok (.iload 4, 2) := by decide +kernel
theorem dX11_upload_119 : decode cX11_upload 119 = .ok (.invokevirtual 211, 3) := by decide +kernel
theorem dX11_upload_122 : decode cX11_upload 122 = .ok (.goto 5, 3) := by decide +kernel
theorem dX11_upload_125 : decode cX11_upload 125 = .ok (.iload 4, 2) := by decide +kernel
theorem dX11_upload_127 : decode cX11_upload 127 = .ok (.istore 4, 2) := by decide +kernel
theorem dX11_upload_129 : decode cX11_upload 129 = .ok (.iload_n 3, 1) := by decide +kernel
theorem dX11_upload_130 : decode cX11_upload 130 = .ok (.iload 4, 2) := by decide +kernel
theorem dX11_upload_132 : decode cX11_upload 132 = .ok (.iconst (-1), 1) := by decide +kernel
theorem dX11_upload_133 : decode cX11_upload 133 = .ok (.if_icmp .ne 7, 3) := by decide +kernel
theorem dX11_upload_136 : decode cX11_upload 136 = .ok (.iconst 0, 1) := by decide +kernel
theorem dX11_upload_137 : decode cX11_upload 137 = .ok (.goto 9, 3) := by decide +kernel
theorem dX11_upload_140 : decode cX11_upload 140 = .ok (.aload_n 0, 1) := by decide +kernel
theorem dX11_upload_141 : decode cX11_upload 141 = .ok (.iload 5, 2) := by decide +kernel
theorem dX11_upload_143 : decode cX11_upload 143 = .ok (.invokevirtual 214, 3) := by decide +kernel
theorem dX11_upload_146 : decode cX11_upload 146 = .ok (.iadd, 1) := by decide +kernel
theorem dX11_upload_147 : decode cX11_upload 147 = .ok (.istore_n 3, 1) := by decide +kernel
theorem dX11_upload_148 : decode cX11_upload 148 = .ok (.aload_n 0, 1) := by decide +kernel
theorem dX11_upload_149 : decode cX11_upload 149 = .ok (.iload_n 1, 1) := by decide +kernel
theorem dX11_upload_150 : decode cX11_upload 150 = .ok (.invokevirtual 208, 3) := by decide +kernel
theorem dX11_upload_153 : decode cX11_upload 153 = .ok (.istore 5, 2) := by decide +kernel
theorem dX11_upload_155 : decode cX11_upload 155 = .ok (.goto (-89), 3) := by decide +kernel
theorem dX11_upload_158 : decode cX11_upload 158 = .ok (.iload_n 3, 1) := by decide +kernel
theorem dX11_upload_159 : decode cX11_upload 159 = .ok (.ireturn, 1) := by decide +kernel
theorem dX11_mayRead_0 : decode cX11_mayRead 0 = .ok (.aload_n 0, 1) := by decide +kernel
theorem dX11_mayRead_1 : decode cX11_mayRead 1 = .ok (.iload_n 2, 1) := by decide +kernel
theorem dX11_mayRead_2 : decode cX11_mayRead 2 = .ok (.invokevirtual 158, 3) := by decide +kernel
theorem dX11_mayRead_5 : decode cX11_mayRead 5 = .ok (.ifCond .eq 12, 3) := by decide +kernel
theorem dX11_mayRead_8 : decode cX11_mayRead 8 = .ok (.aload_n 0, 1) := by decide +kernel
theorem dX11_mayRead_9 : decode cX11_mayRead 9 = .ok (.getfield 53, 3) := by decide +kernel
theorem dX11_mayRead_12 : decode cX11_mayRead 12 = .ok (.iload_n 2, 1) := by decide +kernel
theorem dX11_mayRead_13 : decode cX11_mayRead 13 = .ok (.iaload, 1) := by decide +kernel
theorem dX11_mayRead_14 : decode cX11_mayRead 14 = .ok (.goto 22, 3) := by decide +kernel
theorem dX11_mayRead_17 : decode cX11_mayRead 17 = .ok (.aload_n 0, 1) := by decide +kernel
theorem dX11_mayRead_18 : decode cX11_mayRead 18 = .ok (.getfield 7, 3) := by decide +kernel
theorem dX11_mayRead_21 : decode cX11_mayRead 21 = .ok (.iload_n 1, 1) := by decide +kernel
theorem dX11_mayRead_22 : decode cX11_mayRead 22 = .ok (.iaload, 1) := by decide +kernel
theorem dX11_mayRead_23 : decode cX11_mayRead 23 = .ok (.ifCond .eq 12, 3) := by decide +kernel
theorem dX11_mayRead_26 : decode cX11_mayRead 26 = .ok (.aload_n 0, 1) := by decide +kernel
theorem dX11_mayRead_27 : decode cX11_mayRead 27 = .ok (.getfield 17, 3) := by decide +kernel
theorem dX11_mayRead_30 : decode cX11_mayRead 30 = .ok (.iload_n 1, 1) := by decide +kernel
theorem dX11_mayRead_31 : decode cX11_mayRead 31 = .ok (.iaload, 1) := by decide +kernel
theorem dX11_mayRead_32 : decode cX11_mayRead 32 = .ok (.goto 4, 3) := by decide +kernel
theorem dX11_mayRead_35 : decode cX11_mayRead 35 = .ok (.iconst (-1), 1) := by decide +kernel
theorem dX11_mayRead_36 : decode cX11_mayRead 36 = .ok (.istore_n 3, 1) := by decide +kernel
theorem dX11_mayRead_37 : decode cX11_mayRead 37 = .ok (.iload_n 3, 1) := by decide +kernel
theorem dX11_mayRead_38 : decode cX11_mayRead 38 = .ok (.iconst (-1), 1) := by decide +kernel
theorem dX11_mayRead_39 : decode cX11_mayRead 39 = .ok (.if_icmp .eq 16, 3) := by decide +kernel
theorem dX11_mayRead_42 : decode cX11_mayRead 42 = .ok (.aload_n 0, 1) := by decide +kernel
theorem dX11_mayRead_43 : decode cX11_mayRead 43 = .ok (.iload_n 3, 1) := by decide +kernel
theorem dX11_mayRead_44 : decode cX11_mayRead 44 = .ok (.iload_n 1, 1) := by decide +kernel
theorem dX11_mayRead_45 : decode cX11_mayRead 45 = .ok (.bipush 16, 2) := by decide +kernel
theorem dX11_mayRead_47 : decode cX11_mayRead 47 = .ok (.idiv, 1) := by decide +kernel
theorem dX11_mayRead_48 : decode cX11_mayRead 48 = .ok (.invokevirtual 165, 3) := by decide +kernel
theorem dX11_mayRead_51 : decode cX11_mayRead 51 = .ok (.iconst 1, 1) := by decide +kernel
theorem dX11_mayRead_52 : decode cX11_mayRead 52 = .ok (.if_icmp .lt 7, 3) := by decide +kernel
theorem dX11_mayRead_55 : decode cX11_mayRead 55 = .ok (.iconst 1, 1) := by decide +kernel
theorem dX11_mayRead_56 : decode cX11_mayRead 56 = .ok (.goto 4, 3) := by decide +kernel
theorem dX11_mayRead_59 : decode cX11_mayRead 59 = .ok (.iconst 0, 1) := by decide +kernel
theorem dX11_mayRead_60 : decode cX11_mayRead 60 = .ok (.ireturn, 1) := by decide +kernel
theorem dX11_pull_0 : decode cX11_pull 0 = .ok (.aload_n 0, 1) := by decide +kernel
theorem dX11_pull_1 : decode cX11_pull 1 = .ok (.iload_n 1, 1) := by decide +kernel
theorem dX11_pull_2 : decode cX11_pull 2 = .ok (.invokestatic 135, 3) := by decide +kernel
theorem dX11_pull_5 : decode cX11_pull 5 = .ok (.ifCond .eq 7, 3) := by decide +kernel
theorem dX11_pull_8 : decode cX11_pull 8 = .ok (.iconst 0, 1) := by decide +kernel
theorem dX11_pull_9 : decode cX11_pull 9 = .ok (.goto 4, 3) := by decide +kernel
theorem dX11_pull_12 : decode cX11_pull 12 = .ok (.iconst 1, 1) := by decide +kernel
theorem dX11_pull_13 : decode cX11_pull 13 = .ok (.putfield 101, 3) := by decide +kernel
theorem dX11_pull_16 : decode cX11_pull 16 = .ok (.iconst 0, 1) := by decide +kernel
theorem dX11_pull_17 : decode cX11_pull 17 = .ok (.istore_n 2, 1) := by decide +kernel
theorem dX11_pull_18 : decode cX11_pull 18 = .ok (.bipush 16, 2) := by decide +kernel
theorem dX11_pull_20 : decode cX11_pull 20 = .ok (.iload_n 1, 1) := by decide +kernel
theorem dX11_pull_21 : decode cX11_pull 21 = .ok (.imul, 1) := by decide +kernel
theorem dX11_pull_22 : decode cX11_pull 22 = .ok (.istore_n 3, 1) := by decide +kernel
theorem dX11_pull_23 : decode cX11_pull 23 = .ok (.iload_n 3, 1) := by decide +kernel
theorem dX11_pull_24 : decode cX11_pull 24 = .ok (.bipush 16, 2) := by decide +kernel
theorem dX11_pull_26 : decode cX11_pull 26 = .ok (.iload_n 1, 1) := by decide +kernel
theorem dX11_pull_27 : decode cX11_pull 27 = .ok (.imul, 1) := by decide +kernel
theorem dX11_pull_28 : decode cX11_pull 28 = .ok (.bipush 16, 2) := by decide +kernel
theorem dX11_pull_30 : decode cX11_pull 30 = .ok (.iadd, 1) := by decide +kernel
theorem dX11_pull_31 : decode cX11_pull 31 = .ok (.if_icmp .ge 136, 3) := by decide +kernel
theorem dX11_pull_34 : decode cX11_pull 34 = .ok (.aload_n 0, 1) := by decide +kernel
theorem dX11_pull_35 : decode cX11_pull 35 = .ok (.getfield 101, 3) := by decide +kernel
theorem dX11_pull_38 : decode cX11_pull 38 = .ok (.ifCond .ne 129, 3) := by decide +kernel
theorem dX11_pull_41 : decode cX11_pull 41 = .ok (.aload_n 0, 1) := by decide +kernel
theorem dX11_pull_42 : decode cX11_pull 42 = .ok (.iload_n 3, 1) := by decide +kernel
theorem dX11_pull_43 : decode cX11_pull 43 = .ok (.bipush 16, 2) := by decide +kernel
theorem dX11_pull_45 : decode cX11_pull 45 = .ok (.irem, 1) := by decide +kernel
theorem dX11_pull_46 : decode cX11_pull 46 = .ok (.invokevirtual 184, 3) := by decide +kernel
theorem dX11_pull_49 : decode cX11_pull 49 = .ok (.istore 4, 2) := by decide +kernel
theorem dX11_pull_51 : decode cX11_pull 51 = .ok (.aload_n 0, 1) := by decide +kernel
theorem dX11_pull_52 : decode cX11_pull 52 = .ok (.iload_n 3, 1) := by decide +kernel
theorem dX11_pull_53 : decode cX11_pull 53 = .ok (.invokevirtual 152, 3) := by decide +kernel
theorem dX11_pull_56 : decode cX11_pull 56 = .ok (.ifCond .ne 105, 3) := by decide +kernel
theorem dX11_pull_59 : decode cX11_pull 59 = .ok (.iload 4, 2) := by decide +kernel
theorem dX11_pull_61 : decode cX11_pull 61 = .ok (.iconst (-1), 1) := by decide +kernel
theorem dX11_pull_62 : decode cX11_pull 62 = .ok (.if_icmp .eq 99, 3) := by decide +kernel
theorem dX11_pull_65 : decode cX11_pull 65 = .ok (.aload_n 0, 1) := by decide +kernel
theorem dX11_pull_66 : decode cX11_pull 66 = .ok (.iload_n 3, 1) := by decide +kernel
theorem dX11_pull_67 : decode cX11_pull 67 = .ok (.iload 4, 2) := by decide +kernel
theorem dX11_pull_69 : decode cX11_pull 69 = .ok (.invokevirtual 217, 3) := by decide +kernel
theorem dX11_pull_72 : decode cX11_pull 72 = .ok (.ifCond .eq 89, 3) := by decide +kernel
theorem dX11_pull_75 : decode cX11_pull 75 = .ok (.iload_n 2, 1) := by decide +kernel
theorem dX11_pull_76 : decode cX11_pull 76 = .ok (.aload_n 0, 1) := by decide +kernel
theorem dX11_pull_77 : decode cX11_pull 77 = .ok (.iload_n 3, 1) := by decide +kernel
theorem dX11_pull_78 : decode cX11_pull 78 = .ok (.iload 4, 2) := by decide +kernel
theorem dX11_pull_80 : decode cX11_pull 80 = .ok (.invokevirtual 148, 3) := by decide +kernel
theorem dX11_pull_83 : decode cX11_pull 83 = .ok (.ifCond .eq 7, 3) := by decide +kernel
theorem dX11_pull_86 : decode cX11_pull 86 = .ok (.iconst 0, 1) := by decide +kernel
theorem dX11_pull_87 : decode cX11_pull 87 = .ok (.goto 4, 3) := by decide +kernel
theorem dX11_pull_90 : decode cX11_pull 90 = .ok (.iconst 1, 1) := by decide +kernel
theorem dX11_pull_91 : decode cX11_pull 91 = .ok (.iadd, 1) := by decide +kernel
theorem dX11_pull_92 : decode cX11_pull 92 = .ok (.istore_n 2, 1) := by decide +kernel
theorem dX11_pull_93 : decode cX11_pull 93 = .ok (.aload_n 0, 1) := by decide +kernel
theorem dX11_pull_94 : decode cX11_pull 94 = .ok (.iload 4, 2) := by decide +kernel
theorem dX11_pull_96 : decode cX11_pull 96 = .ok (.invokevirtual 158, 3) := by decide +kernel
theorem dX11_pull_99 : decode cX11_pull 99 = .ok (.ifCond .eq 55, 3) := by decide +kernel
theorem dX11_pull_102 : decode cX11_pull 102 = .ok (.aload_n 0, 1) := by decide +kernel
theorem dX11_pull_103 : decode cX11_pull 103 = .ok (.getfield 7, 3) := by decide +kernel
theorem dX11_pull_106 : decode cX11_pull 106 = .ok (.iload_n 3, 1) := by decide +kernel
theorem dX11_pull_107 : decode cX11_pull 107 = .ok (.iaload, 1) := by decide +kernel
theorem dX11_pull_108 : decode cX11_pull 108 = .ok (.ifCond .eq 46, 3) := by decide +kernel
theorem dX11_pull_111 : decode cX11_pull 111 = .ok (.aload_n 0, 1) := by decide +kernel
theorem dX11_pull_112 : decode cX11_pull 112 = .ok (.getfield 13, 3) := by decide +kernel
theorem dX11_pull_115 : decode cX11_pull 115 = .ok (.iload_n 3, 1) := by decide +kernel
theorem dX11_pull_116 : decode cX11_pull 116 = .ok (.laload, 1) := by decide +kernel
theorem dX11_pull_117 : decode cX11_pull 117 = .ok (.aload_n 0, 1) := by decide +kernel
theorem dX11_pull_118 : decode cX11_pull 118 = .ok (.getfield 56, 3) := by decide +kernel
theorem dX11_pull_121 : decode cX11_pull 121 = .ok (.iload 4, 2) := by decide +kernel
theorem dX11_pull_123 : decode cX11_pull 123 = .ok (.laload, 1) := by decide +kernel
theorem dX11_pull_124 : decode cX11_pull 124 = .ok (.lcmp, 1) := by decide +kernel
theorem dX11_pull_125 : decode cX11_pull 125 = .ok (.ifCond .ne 29, 3) := by decide +kernel
theorem dX11_pull_128 : decode cX11_pull 128 = .ok (.aload_n 0, 1) := by decide +kernel
theorem dX11_pull_129 : decode cX11_pull 129 = .ok (.getfield 20, 3) := by decide +kernel
theorem dX11_pull_132 : decode cX11_pull 132 = .ok (.iload_n 3, 1) := by decide +kernel
theorem dX11_pull_133 : decode cX11_pull 133 = .ok (.iload 4, 2) := by decide +kernel
theorem dX11_pull_135 : decode cX11_pull 135 = .ok (.iconst 1, 1) := by decide +kernel
theorem dX11_pull_136 : decode cX11_pull 136 = .ok (.iadd, 1) := by decide +kernel
theorem dX11_pull_137 : decode cX11_pull 137 = .ok (.iastore, 1) := by decide +kernel
theorem dX11_pull_138 : decode cX11_pull 138 = .ok (.aload_n 0, 1) := by decide +kernel
theorem dX11_pull_139 : decode cX11_pull 139 = .ok (.getfield 17, 3) := by decide +kernel
theorem dX11_pull_142 : decode cX11_pull 142 = .ok (.iload_n 3, 1) := by decide +kernel
theorem dX11_pull_143 : decode cX11_pull 143 = .ok (.aload_n 0, 1) := by decide +kernel
theorem dX11_pull_144 : decode cX11_pull 144 = .ok (.getfield 53, 3) := by decide +kernel
theorem dX11_pull_147 : decode cX11_pull 147 = .ok (.iload 4, 2) := by decide +kernel
theorem dX11_pull_149 : decode cX11_pull 149 = .ok (.iaload, 1) := by decide +kernel
theorem dX11_pull_150 : decode cX11_pull 150 = .ok (.iastore, 1) := by decide +kernel
theorem dX11_pull_151 : decode cX11_pull 151 = .ok (.goto 10, 3) := by decide +kernel
theorem dX11_pull_154 : decode cX11_pull 154 = .ok (.aload_n 0, 1) := by decide +kernel
theorem dX11_pull_155 : decode cX11_pull 155 = .ok (.iload_n 3, 1) := by decide +kernel
theorem dX11_pull_156 : decode cX11_pull 156 = .ok (.iload 4, 2) := by decide +kernel
theorem dX11_pull_158 : decode cX11_pull 158 = .ok (.invokevirtual 180, 3) := by decide +kernel
theorem dX11_pull_161 : decode cX11_pull 161 = .ok (.iinc 3 1, 3) := by decide +kernel
theorem dX11_pull_164 : decode cX11_pull 164 = .ok (.goto (-141), 3) := by decide +kernel
theorem dX11_pull_167 : decode cX11_pull 167 = .ok (.iload_n 2, 1) := by decide +kernel
theorem dX11_pull_168 : decode cX11_pull 168 = .ok (.ireturn, 1) := by decide +kernel
theorem dX11_isWhole_0 : decode cX11_isWhole 0 = .ok (.aload_n 0, 1) := by decide +kernel
theorem dX11_isWhole_1 : decode cX11_isWhole 1 = .ok (.lload_n 1, 1) := by decide +kernel
theorem dX11_isWhole_2 : decode cX11_isWhole 2 = .ok (.invokevirtual 202, 3) := by decide +kernel
theorem dX11_isWhole_5 : decode cX11_isWhole 5 = .ok (.istore_n 3, 1) := by decide +kernel
theorem dX11_isWhole_6 : decode cX11_isWhole 6 = .ok (.iconst 1, 1) := by decide +kernel
theorem dX11_isWhole_7 : decode cX11_isWhole 7 = .ok (.istore 4, 2) := by decide +kernel
theorem dX11_isWhole_9 : decode cX11_isWhole 9 = .ok (.iconst 0, 1) := by decide +kernel
theorem dX11_isWhole_10 : decode cX11_isWhole 10 = .ok (.istore 5, 2) := by decide +kernel
theorem dX11_isWhole_12 : decode cX11_isWhole 12 = .ok (.iload 5, 2) := by decide +kernel
theorem dX11_isWhole_14 : decode cX11_isWhole 14 = .ok (.iload_n 3, 1) := by decide +kernel
theorem dX11_isWhole_15 : decode cX11_isWhole 15 = .ok (.if_icmp .ge 51, 3) := by decide +kernel
theorem dX11_isWhole_18 : decode cX11_isWhole 18 = .ok (.iload 4, 2) := by decide +kernel
theorem dX11_isWhole_20 : decode cX11_isWhole 20 = .ok (.ifCond .eq 37, 3) := by decide +kernel
theorem dX11_isWhole_23 : decode cX11_isWhole 23 = .ok (.aload_n 0, 1) := by decide +kernel
theorem dX11_isWhole_24 : decode cX11_isWhole 24 = .ok (.getfield 83, 3) := by decide +kernel
theorem dX11_isWhole_27 : decode cX11_isWhole 27 = .ok (.aload_n 0, 1) := by decide +kernel
theorem dX11_isWhole_28 : decode cX11_isWhole 28 = .ok (.getfield 95, 3) := by decide +kernel
theorem dX11_isWhole_31 : decode cX11_isWhole 31 = .ok (.iload 5, 2) := by decide +kernel
theorem dX11_isWhole_33 : decode cX11_isWhole 33 = .ok (.iaload, 1) := by decide +kernel
theorem dX11_isWhole_34 : decode cX11_isWhole 34 = .ok (.iaload, 1) := by decide +kernel
theorem dX11_isWhole_35 : decode cX11_isWhole 35 = .ok (.ifCond .le 22, 3) := by decide +kernel
theorem dX11_isWhole_38 : decode cX11_isWhole 38 = .ok (.aload_n 0, 1) := by decide +kernel
theorem dX11_isWhole_39 : decode cX11_isWhole 39 = .ok (.getfield 86, 3) := by decide +kernel
theorem dX11_isWhole_42 : decode cX11_isWhole 42 = .ok (.aload_n 0, 1) := by decide +kernel
theorem dX11_isWhole_43 : decode cX11_isWhole 43 = .ok (.getfield 95, 3) := by decide +kernel
theorem dX11_isWhole_46 : decode cX11_isWhole 46 = .ok (.iload 5, 2) := by decide +kernel
theorem dX11_isWhole_48 : decode cX11_isWhole 48 = .ok (.iaload, 1) := by decide +kernel
theorem dX11_isWhole_49 : decode cX11_isWhole 49 = .ok (.iaload, 1) := by decide +kernel
theorem dX11_isWhole_50 : decode cX11_isWhole 50 = .ok (.ifCond .ne 7, 3) := by decide +kernel
theorem dX11_isWhole_53 : decode cX11_isWhole 53 = .ok (.iconst 1, 1) := by decide +kernel
theorem dX11_isWhole_54 : decode cX11_isWhole 54 = .ok (.goto 4, 3) := by decide +kernel
theorem dX11_isWhole_57 : decode cX11_isWhole 57 = .ok (.iconst 0, 1) := by decide +kernel
theorem dX11_isWhole_58 : decode cX11_isWhole 58 = .ok (.istore 4, 2) := by decide +kernel
theorem dX11_isWhole_60 : decode cX11_isWhole 60 = .ok (.iinc 5 1, 3) := by decide +kernel
theorem dX11_isWhole_63 : decode cX11_isWhole 63 = .ok (.goto (-51), 3) := by decide +kernel
theorem dX11_isWhole_66 : decode cX11_isWhole 66 = .ok (.iload 4, 2) := by decide +kernel
theorem dX11_isWhole_68 : decode cX11_isWhole 68 = .ok (.ireturn, 1) := by decide +kernel
theorem dX11_takenAt_0 : decode cX11_takenAt 0 = .ok (.iconst 0, 1) := by decide +kernel
theorem dX11_takenAt_1 : decode cX11_takenAt 1 = .ok (.istore_n 2, 1) := by decide +kernel
theorem dX11_takenAt_2 : decode cX11_takenAt 2 = .ok (.bipush 16, 2) := by decide +kernel
theorem dX11_takenAt_4 : decode cX11_takenAt 4 = .ok (.iload_n 1, 1) := by decide +kernel
theorem dX11_takenAt_5 : decode cX11_takenAt 5 = .ok (.imul, 1) := by decide +kernel
theorem dX11_takenAt_6 : decode cX11_takenAt 6 = .ok (.istore_n 3, 1) := by decide +kernel
theorem dX11_takenAt_7 : decode cX11_takenAt 7 = .ok (.iload_n 3, 1) := by decide +kernel
theorem dX11_takenAt_8 : decode cX11_takenAt 8 = .ok (.bipush 16, 2) := by decide +kernel
theorem dX11_takenAt_10 : decode cX11_takenAt 10 = .ok (.iload_n 1, 1) := by decide +kernel
theorem dX11_takenAt_11 : decode cX11_takenAt 11 = .ok (.imul, 1) := by decide +kernel
theorem dX11_takenAt_12 : decode cX11_takenAt 12 = .ok (.bipush 16, 2) := by decide +kernel
theorem dX11_takenAt_14 : decode cX11_takenAt 14 = .ok (.iadd, 1) := by decide +kernel
theorem dX11_takenAt_15 : decode cX11_takenAt 15 = .ok (.if_icmp .ge 35, 3) := by decide +kernel
theorem dX11_takenAt_18 : decode cX11_takenAt 18 = .ok (.iload_n 2, 1) := by decide +kernel
theorem dX11_takenAt_19 : decode cX11_takenAt 19 = .ok (.aload_n 0, 1) := by decide +kernel
theorem dX11_takenAt_20 : decode cX11_takenAt 20 = .ok (.getfield 7, 3) := by decide +kernel
theorem dX11_takenAt_23 : decode cX11_takenAt 23 = .ok (.iload_n 3, 1) := by decide +kernel
theorem dX11_takenAt_24 : decode cX11_takenAt 24 = .ok (.iaload, 1) := by decide +kernel
theorem dX11_takenAt_25 : decode cX11_takenAt 25 = .ok (.iconst 2, 1) := by decide +kernel
theorem dX11_takenAt_26 : decode cX11_takenAt 26 = .ok (.if_icmp .ne 15, 3) := by decide +kernel
theorem dX11_takenAt_29 : decode cX11_takenAt 29 = .ok (.aload_n 0, 1) := by decide +kernel
theorem dX11_takenAt_30 : decode cX11_takenAt 30 = .ok (.getfield 13, 3) := by decide +kernel
theorem dX11_takenAt_33 : decode cX11_takenAt 33 = .ok (.iload_n 3, 1) := by decide +kernel
theorem dX11_takenAt_34 : decode cX11_takenAt 34 = .ok (.laload, 1) := by decide +kernel
theorem dX11_takenAt_35 : decode cX11_takenAt 35 = .ok (.invokestatic 111, 3) := by decide +kernel
theorem dX11_takenAt_38 : decode cX11_takenAt 38 = .ok (.goto 4, 3) := by decide +kernel
theorem dX11_takenAt_41 : decode cX11_takenAt 41 = .ok (.iconst 0, 1) := by decide +kernel
theorem dX11_takenAt_42 : decode cX11_takenAt 42 = .ok (.iadd, 1) := by decide +kernel
theorem dX11_takenAt_43 : decode cX11_takenAt 43 = .ok (.istore_n 2, 1) := by decide +kernel
theorem dX11_takenAt_44 : decode cX11_takenAt 44 = .ok (.iinc 3 1, 3) := by decide +kernel
theorem dX11_takenAt_47 : decode cX11_takenAt 47 = .ok (.goto (-40), 3) := by decide +kernel
theorem dX11_takenAt_50 : decode cX11_takenAt 50 = .ok (.iload_n 2, 1) := by decide +kernel
theorem dX11_takenAt_51 : decode cX11_takenAt 51 = .ok (.ireturn, 1) := by decide +kernel
theorem dX11_canGo_0 : decode cX11_canGo 0 = .ok (.aload_n 0, 1) := by decide +kernel
theorem dX11_canGo_1 : decode cX11_canGo 1 = .ok (.getfield 7, 3) := by decide +kernel
theorem dX11_canGo_4 : decode cX11_canGo 4 = .ok (.iload_n 1, 1) := by decide +kernel
theorem dX11_canGo_5 : decode cX11_canGo 5 = .ok (.iaload, 1) := by decide +kernel
theorem dX11_canGo_6 : decode cX11_canGo 6 = .ok (.iconst 2, 1) := by decide +kernel
theorem dX11_canGo_7 : decode cX11_canGo 7 = .ok (.if_icmp .ne 24, 3) := by decide +kernel
theorem dX11_canGo_10 : decode cX11_canGo 10 = .ok (.aload_n 0, 1) := by decide +kernel
theorem dX11_canGo_11 : decode cX11_canGo 11 = .ok (.iload_n 1, 1) := by decide +kernel
theorem dX11_canGo_12 : decode cX11_canGo 12 = .ok (.invokevirtual 152, 3) := by decide +kernel
theorem dX11_canGo_15 : decode cX11_canGo 15 = .ok (.ifCond .ne 16, 3) := by decide +kernel
theorem dX11_canGo_18 : decode cX11_canGo 18 = .ok (.aload_n 0, 1) := by decide +kernel
theorem dX11_canGo_19 : decode cX11_canGo 19 = .ok (.getfield 23, 3) := by decide +kernel
theorem dX11_canGo_22 : decode cX11_canGo 22 = .ok (.iload_n 1, 1) := by decide +kernel
theorem dX11_canGo_23 : decode cX11_canGo 23 = .ok (.iaload, 1) := by decide +kernel
theorem dX11_canGo_24 : decode cX11_canGo 24 = .ok (.ifCond .ne 7, 3) := by decide +kernel
theorem dX11_canGo_27 : decode cX11_canGo 27 = .ok (.iconst 1, 1) := by decide +kernel
theorem dX11_canGo_28 : decode cX11_canGo 28 = .ok (.goto 4, 3) := by decide +kernel
theorem dX11_canGo_31 : decode cX11_canGo 31 = .ok (.iconst 0, 1) := by decide +kernel
theorem dX11_canGo_32 : decode cX11_canGo 32 = .ok (.ireturn, 1) := by decide +kernel
theorem dX11_makesRoom_0 : decode cX11_makesRoom 0 = .ok (.aload_n 0, 1) := by decide +kernel
theorem dX11_makesRoom_1 : decode cX11_makesRoom 1 = .ok (.getfield 35, 3) := by decide +kernel
theorem dX11_makesRoom_4 : decode cX11_makesRoom 4 = .ok (.iload_n 1, 1) := by decide +kernel
theorem dX11_makesRoom_5 : decode cX11_makesRoom 5 = .ok (.iaload, 1) := by decide +kernel
theorem dX11_makesRoom_6 : decode cX11_makesRoom 6 = .ok (.aload_n 0, 1) := by decide +kernel
theorem dX11_makesRoom_7 : decode cX11_makesRoom 7 = .ok (.iload_n 1, 1) := by decide +kernel
theorem dX11_makesRoom_8 : decode cX11_makesRoom 8 = .ok (.invokevirtual 220, 3) := by decide +kernel
theorem dX11_makesRoom_11 : decode cX11_makesRoom 11 = .ok (.isub, 1) := by decide +kernel
theorem dX11_makesRoom_12 : decode cX11_makesRoom 12 = .ok (.istore_n 3, 1) := by decide +kernel
theorem dX11_makesRoom_13 : decode cX11_makesRoom 13 = .ok (.bipush 16, 2) := by decide +kernel
theorem dX11_makesRoom_15 : decode cX11_makesRoom 15 = .ok (.iload_n 1, 1) := by decide +kernel
theorem dX11_makesRoom_16 : decode cX11_makesRoom 16 = .ok (.imul, 1) := by decide +kernel
theorem dX11_makesRoom_17 : decode cX11_makesRoom 17 = .ok (.istore 4, 2) := by decide +kernel
theorem dX11_makesRoom_19 : decode cX11_makesRoom 19 = .ok (.iload 4, 2) := by decide +kernel
theorem dX11_makesRoom_21 : decode cX11_makesRoom 21 = .ok (.bipush 16, 2) := by decide +kernel
theorem dX11_makesRoom_23 : decode cX11_makesRoom 23 = .ok (.iload_n 1, 1) := by decide +kernel
theorem dX11_makesRoom_24 : decode cX11_makesRoom 24 = .ok (.imul, 1) := by decide +kernel
theorem dX11_makesRoom_25 : decode cX11_makesRoom 25 = .ok (.bipush 16, 2) := by decide +kernel
theorem dX11_makesRoom_27 : decode cX11_makesRoom 27 = .ok (.iadd, 1) := by decide +kernel
theorem dX11_makesRoom_28 : decode cX11_makesRoom 28 = .ok (.if_icmp .ge 35, 3) := by decide +kernel
theorem dX11_makesRoom_31 : decode cX11_makesRoom 31 = .ok (.iload_n 3, 1) := by decide +kernel
theorem dX11_makesRoom_32 : decode cX11_makesRoom 32 = .ok (.aload_n 0, 1) := by decide +kernel
theorem dX11_makesRoom_33 : decode cX11_makesRoom 33 = .ok (.iload 4, 2) := by decide +kernel
theorem dX11_makesRoom_35 : decode cX11_makesRoom 35 = .ok (.invokevirtual 223, 3) := by decide +kernel
theorem dX11_makesRoom_38 : decode cX11_makesRoom 38 = .ok (.ifCond .eq 16, 3) := by decide +kernel
theorem dX11_makesRoom_41 : decode cX11_makesRoom 41 = .ok (.aload_n 0, 1) := by decide +kernel
theorem dX11_makesRoom_42 : decode cX11_makesRoom 42 = .ok (.getfield 13, 3) := by decide +kernel
theorem dX11_makesRoom_45 : decode cX11_makesRoom 45 = .ok (.iload 4, 2) := by decide +kernel
theorem dX11_makesRoom_47 : decode cX11_makesRoom 47 = .ok (.laload, 1) := by decide +kernel
theorem dX11_makesRoom_48 : decode cX11_makesRoom 48 = .ok (.invokestatic 111, 3) := by decide +kernel
theorem dX11_makesRoom_51 : decode cX11_makesRoom 51 = .ok (.goto 4, 3) := by decide +kernel
theorem dX11_makesRoom_54 : decode cX11_makesRoom 54 = .ok (.iconst 0, 1) := by decide +kernel
theorem dX11_makesRoom_55 : decode cX11_makesRoom 55 = .ok (.iadd, 1) := by decide +kernel
theorem dX11_makesRoom_56 : decode cX11_makesRoom 56 = .ok (.istore_n 3, 1) := by decide +kernel
theorem dX11_makesRoom_57 : decode cX11_makesRoom 57 = .ok (.iinc 4 1, 3) := by decide +kernel
theorem dX11_makesRoom_60 : decode cX11_makesRoom 60 = .ok (.goto (-41), 3) := by decide +kernel
theorem dX11_makesRoom_63 : decode cX11_makesRoom 63 = .ok (.iload_n 3, 1) := by decide +kernel
theorem dX11_makesRoom_64 : decode cX11_makesRoom 64 = .ok (.iload_n 2, 1) := by decide +kernel
theorem dX11_makesRoom_65 : decode cX11_makesRoom 65 = .ok (.if_icmp .ge 5, 3) := by decide +kernel
theorem dX11_makesRoom_68 : decode cX11_makesRoom 68 = .ok (.iconst 0, 1) := by decide +kernel
theorem dX11_makesRoom_69 : decode cX11_makesRoom 69 = .ok (.ireturn, 1) := by decide +kernel
theorem dX11_makesRoom_70 : decode cX11_makesRoom 70 = .ok (.aload_n 0, 1) := by decide +kernel
theorem dX11_makesRoom_71 : decode cX11_makesRoom 71 = .ok (.getfield 35, 3) := by decide +kernel
theorem dX11_makesRoom_74 : decode cX11_makesRoom 74 = .ok (.iload_n 1, 1) := by decide +kernel
theorem dX11_makesRoom_75 : decode cX11_makesRoom 75 = .ok (.iaload, 1) := by decide +kernel
theorem dX11_makesRoom_76 : decode cX11_makesRoom 76 = .ok (.aload_n 0, 1) := by decide +kernel
theorem dX11_makesRoom_77 : decode cX11_makesRoom 77 = .ok (.iload_n 1, 1) := by decide +kernel
theorem dX11_makesRoom_78 : decode cX11_makesRoom 78 = .ok (.invokevirtual 220, 3) := by decide +kernel
theorem dX11_makesRoom_81 : decode cX11_makesRoom 81 = .ok (.isub, 1) := by decide +kernel
theorem dX11_makesRoom_82 : decode cX11_makesRoom 82 = .ok (.iload_n 2, 1) := by decide +kernel
theorem dX11_makesRoom_83 : decode cX11_makesRoom 83 = .ok (.if_icmp .ge 82, 3) := by decide +kernel
theorem dX11_makesRoom_86 : decode cX11_makesRoom 86 = .ok (.iconst (-1), 1) := by decide +kernel
theorem dX11_makesRoom_87 : decode cX11_makesRoom 87 = .ok (.istore 4, 2) := by decide +kernel
theorem dX11_makesRoom_89 : decode cX11_makesRoom 89 = .ok (.bipush 16, 2) := by decide +kernel
theorem dX11_makesRoom_91 : decode cX11_makesRoom 91 = .ok (.iload_n 1, 1) := by decide +kernel
theorem dX11_makesRoom_92 : decode cX11_makesRoom 92 = .ok (.imul, 1) := by decide +kernel
theorem dX11_makesRoom_93 : decode cX11_makesRoom 93 = .ok (.istore 5, 2) := by decide +kernel
theorem dX11_makesRoom_95 : decode cX11_makesRoom 95 = .ok (.iload 5, 2) := by decide +kernel
theorem dX11_makesRoom_97 : decode cX11_makesRoom 97 = .ok (.bipush 16, 2) := by decide +kernel
theorem dX11_makesRoom_99 : decode cX11_makesRoom 99 = .ok (.iload_n 1, 1) := by decide +kernel
theorem dX11_makesRoom_100 : decode cX11_makesRoom 100 = .ok (.imul, 1) := by decide +kernel
theorem dX11_makesRoom_101 : decode cX11_makesRoom 101 = .ok (.bipush 16, 2) := by decide +kernel
theorem dX11_makesRoom_103 : decode cX11_makesRoom 103 = .ok (.iadd, 1) := by decide +kernel
theorem dX11_makesRoom_104 : decode cX11_makesRoom 104 = .ok (.if_icmp .ge 50, 3) := by decide +kernel
theorem dX11_makesRoom_107 : decode cX11_makesRoom 107 = .ok (.aload_n 0, 1) := by decide +kernel
theorem dX11_makesRoom_108 : decode cX11_makesRoom 108 = .ok (.iload 5, 2) := by decide +kernel
theorem dX11_makesRoom_110 : decode cX11_makesRoom 110 = .ok (.invokevirtual 223, 3) := by decide +kernel
theorem dX11_makesRoom_113 : decode cX11_makesRoom 113 = .ok (.ifCond .eq 31, 3) := by decide +kernel
theorem dX11_makesRoom_116 : decode cX11_makesRoom 116 = .ok (.iload 4, 2) := by decide +kernel
theorem dX11_makesRoom_118 : decode cX11_makesRoom 118 = .ok (.iconst (-1), 1) := by decide +kernel
theorem dX11_makesRoom_119 : decode cX11_makesRoom 119 = .ok (.if_icmp .eq 20, 3) := by decide +kernel
theorem dX11_makesRoom_122 : decode cX11_makesRoom 122 = .ok (.aload_n 0, 1) := by decide +kernel
theorem dX11_makesRoom_123 : decode cX11_makesRoom 123 = .ok (.getfield 26, 3) := by decide +kernel
theorem dX11_makesRoom_126 : decode cX11_makesRoom 126 = .ok (.iload 5, 2) := by decide +kernel
theorem dX11_makesRoom_128 : decode cX11_makesRoom 128 = .ok (.iaload, 1) := by decide +kernel
theorem dX11_makesRoom_129 : decode cX11_makesRoom 129 = .ok (.aload_n 0, 1) := by decide +kernel
theorem dX11_makesRoom_130 : decode cX11_makesRoom 130 = .ok (.getfield 26, 3) := by decide +kernel
theorem dX11_makesRoom_133 : decode cX11_makesRoom 133 = .ok (.iload 4, 2) := by decide +kernel
theorem dX11_makesRoom_135 : decode cX11_makesRoom 135 = .ok (.iaload, 1) := by decide +kernel
theorem dX11_makesRoom_136 : decode cX11_makesRoom 136 = .ok (.if_icmp .ge 8, 3) := by decide +kernel
theorem dX11_makesRoom_139 : decode cX11_makesRoom 139 = .ok (.iload 5, 2) := by decide +kernel
theorem dX11_makesRoom_141 : decode cX11_makesRoom 141 = .ok (.goto 5, 3) := by decide +kernel
theorem dX11_makesRoom_144 : decode cX11_makesRoom 144 = .ok (.iload 4, 2) := by decide +kernel
theorem dX11_makesRoom_146 : decode cX11_makesRoom 146 = .ok (.istore 4, 2) := by decide +kernel
theorem dX11_makesRoom_148 : decode cX11_makesRoom 148 = .ok (.iinc 5 1, 3) := by decide +kernel
theorem dX11_makesRoom_151 : decode cX11_makesRoom 151 = .ok (.goto (-56), 3) := by decide +kernel
theorem dX11_makesRoom_154 : decode cX11_makesRoom 154 = .ok (.aload_n 0, 1) := by decide +kernel
theorem dX11_makesRoom_155 : decode cX11_makesRoom 155 = .ok (.getfield 7, 3) := by decide +kernel
theorem dX11_makesRoom_158 : decode cX11_makesRoom 158 = .ok (.iload 4, 2) := by decide +kernel
theorem dX11_makesRoom_160 : decode cX11_makesRoom 160 = .ok (.iconst 1, 1) := by decide +kernel
theorem dX11_makesRoom_161 : decode cX11_makesRoom 161 = .ok (.iastore, 1) := by decide +kernel
theorem dX11_makesRoom_162 : decode cX11_makesRoom 162 = .ok (.goto (-92), 3) := by decide +kernel
theorem dX11_makesRoom_165 : decode cX11_makesRoom 165 = .ok (.iconst 1, 1) := by decide +kernel
theorem dX11_makesRoom_166 : decode cX11_makesRoom 166 = .ok (.ireturn, 1) := by decide +kernel
theorem dX11_open_0 : decode cX11_open 0 = .ok (.aload_n 0, 1) := by decide +kernel
theorem dX11_open_1 : decode cX11_open 1 = .ok (.iload_n 1, 1) := by decide +kernel
theorem dX11_open_2 : decode cX11_open 2 = .ok (.invokestatic 135, 3) := by decide +kernel
theorem dX11_open_5 : decode cX11_open 5 = .ok (.ifCond .eq 10, 3) := by decide +kernel
theorem dX11_open_8 : decode cX11_open 8 = .ok (.iload_n 2, 1) := by decide +kernel
theorem dX11_open_9 : decode cX11_open 9 = .ok (.invokestatic 139, 3) := by decide +kernel
theorem dX11_open_12 : decode cX11_open 12 = .ok (.ifCond .ne 7, 3) := by decide +kernel
theorem dX11_open_15 : decode cX11_open 15 = .ok (.iconst 1, 1) := by decide +kernel
theorem dX11_open_16 : decode cX11_open 16 = .ok (.goto 22, 3) := by decide +kernel
theorem dX11_open_19 : decode cX11_open 19 = .ok (.aload_n 0, 1) := by decide +kernel
theorem dX11_open_20 : decode cX11_open 20 = .ok (.getfield 7, 3) := by decide +kernel
theorem dX11_open_23 : decode cX11_open 23 = .ok (.bipush 16, 2) := by decide +kernel
theorem dX11_open_25 : decode cX11_open 25 = .ok (.iload_n 1, 1) := by decide +kernel
theorem dX11_open_26 : decode cX11_open 26 = .ok (.imul, 1) := by decide +kernel
theorem dX11_open_27 : decode cX11_open 27 = .ok (.iload_n 2, 1) := by decide +kernel
theorem dX11_open_28 : decode cX11_open 28 = .ok (.iadd, 1) := by decide +kernel
theorem dX11_open_29 : decode cX11_open 29 = .ok (.iaload, 1) := by decide +kernel
theorem dX11_open_30 : decode cX11_open 30 = .ok (.ifCond .ne 7, 3) := by decide +kernel
theorem dX11_open_33 : decode cX11_open 33 = .ok (.iconst 2, 1) := by decide +kernel
theorem dX11_open_34 : decode cX11_open 34 = .ok (.goto 4, 3) := by decide +kernel
theorem dX11_open_37 : decode cX11_open 37 = .ok (.iconst 0, 1) := by decide +kernel
theorem dX11_open_38 : decode cX11_open 38 = .ok (.putfield 101, 3) := by decide +kernel
theorem dX11_open_41 : decode cX11_open 41 = .ok (.aload_n 0, 1) := by decide +kernel
theorem dX11_open_42 : decode cX11_open 42 = .ok (.getfield 101, 3) := by decide +kernel
theorem dX11_open_45 : decode cX11_open 45 = .ok (.ifCond .le 5, 3) := by decide +kernel
theorem dX11_open_48 : decode cX11_open 48 = .ok (.iconst 0, 1) := by decide +kernel
theorem dX11_open_49 : decode cX11_open 49 = .ok (.ireturn, 1) := by decide +kernel
theorem dX11_open_50 : decode cX11_open 50 = .ok (.bipush 16, 2) := by decide +kernel
theorem dX11_open_52 : decode cX11_open 52 = .ok (.iload_n 1, 1) := by decide +kernel
theorem dX11_open_53 : decode cX11_open 53 = .ok (.imul, 1) := by decide +kernel
theorem dX11_open_54 : decode cX11_open 54 = .ok (.iload_n 2, 1) := by decide +kernel
theorem dX11_open_55 : decode cX11_open 55 = .ok (.iadd, 1) := by decide +kernel
theorem dX11_open_56 : decode cX11_open 56 = .ok (.istore_n 3, 1) := by decide +kernel
theorem dX11_open_57 : decode cX11_open 57 = .ok (.aload_n 0, 1) := by decide +kernel
theorem dX11_open_58 : decode cX11_open 58 = .ok (.getfield 7, 3) := by decide +kernel
theorem dX11_open_61 : decode cX11_open 61 = .ok (.iload_n 3, 1) := by decide +kernel
theorem dX11_open_62 : decode cX11_open 62 = .ok (.iaload, 1) := by decide +kernel
theorem dX11_open_63 : decode cX11_open 63 = .ok (.iconst 1, 1) := by decide +kernel
theorem dX11_open_64 : decode cX11_open 64 = .ok (.if_icmp .ne 69, 3) := by decide +kernel
theorem dX11_open_67 : decode cX11_open 67 = .ok (.aload_n 0, 1) := by decide +kernel
theorem dX11_open_68 : decode cX11_open 68 = .ok (.aload_n 0, 1) := by decide +kernel
theorem dX11_open_69 : decode cX11_open 69 = .ok (.getfield 17, 3) := by decide +kernel
theorem dX11_open_72 : decode cX11_open 72 = .ok (.iload_n 3, 1) := by decide +kernel
theorem dX11_open_73 : decode cX11_open 73 = .ok (.iaload, 1) := by decide +kernel
theorem dX11_open_74 : decode cX11_open 74 = .ok (.iload_n 1, 1) := by decide +kernel
theorem dX11_open_75 : decode cX11_open 75 = .ok (.invokevirtual 165, 3) := by decide +kernel
theorem dX11_open_78 : decode cX11_open 78 = .ok (.iconst 1, 1) := by decide +kernel
theorem dX11_open_79 : decode cX11_open 79 = .ok (.if_icmp .lt 20, 3) := by decide +kernel
theorem dX11_open_82 : decode cX11_open 82 = .ok (.aload_n 0, 1) := by decide +kernel
theorem dX11_open_83 : decode cX11_open 83 = .ok (.aload_n 0, 1) := by decide +kernel
theorem dX11_open_84 : decode cX11_open 84 = .ok (.getfield 13, 3) := by decide +kernel
theorem dX11_open_87 : decode cX11_open 87 = .ok (.iload_n 3, 1) := by decide +kernel
theorem dX11_open_88 : decode cX11_open 88 = .ok (.laload, 1) := by decide +kernel
theorem dX11_open_89 : decode cX11_open 89 = .ok (.invokevirtual 226, 3) := by decide +kernel
theorem dX11_open_92 : decode cX11_open 92 = .ok (.ifCond .eq 7, 3) := by decide +kernel
theorem dX11_open_95 : decode cX11_open 95 = .ok (.iconst 1, 1) := by decide +kernel
theorem dX11_open_96 : decode cX11_open 96 = .ok (.goto 4, 3) := by decide +kernel
theorem dX11_open_99 : decode cX11_open 99 = .ok (.iconst 0, 1) := by decide +kernel
theorem dX11_open_100 : decode cX11_open 100 = .ok (.istore 4, 2) := by decide +kernel
theorem dX11_open_102 : decode cX11_open 102 = .ok (.aload_n 0, 1) := by decide +kernel
theorem dX11_open_103 : decode cX11_open 103 = .ok (.iload 4, 2) := by decide +kernel
theorem dX11_open_105 : decode cX11_open 105 = .ok (.ifCond .eq 24, 3) := by decide +kernel
theorem dX11_open_108 : decode cX11_open 108 = .ok (.aload_n 0, 1) := by decide +kernel
theorem dX11_open_109 : decode cX11_open 109 = .ok (.iload_n 1, 1) := by decide +kernel
theorem dX11_open_110 : decode cX11_open 110 = .ok (.aload_n 0, 1) := by decide +kernel
theorem dX11_open_111 : decode cX11_open 111 = .ok (.getfield 13, 3) := by decide +kernel
theorem dX11_open_114 : decode cX11_open 114 = .ok (.iload_n 3, 1) := by decide +kernel
theorem dX11_open_115 : decode cX11_open 115 = .ok (.laload, 1) := by decide +kernel
theorem dX11_open_116 : decode cX11_open 116 = .ok (.invokestatic 111, 3) := by decide +kernel
theorem dX11_open_119 : decode cX11_open 119 = .ok (.invokevirtual 230, 3) := by decide +kernel
theorem dX11_open_122 : decode cX11_open 122 = .ok (.ifCond .eq 7, 3) := by decide +kernel
theorem dX11_open_125 : decode cX11_open 125 = .ok (.iconst 0, 1) := by decide +kernel
theorem dX11_open_126 : decode cX11_open 126 = .ok (.goto 4, 3) := by decide +kernel
theorem dX11_open_129 : decode cX11_open 129 = .ok (.iconst 2, 1) := by decide +kernel
theorem dX11_open_130 : decode cX11_open 130 = .ok (.putfield 101, 3) := by decide +kernel
theorem dX11_open_133 : decode cX11_open 133 = .ok (.aload_n 0, 1) := by decide +kernel
theorem dX11_open_134 : decode cX11_open 134 = .ok (.getfield 101, 3) := by decide +kernel
theorem dX11_open_137 : decode cX11_open 137 = .ok (.ifCond .le 5, 3) := by decide +kernel
theorem dX11_open_140 : decode cX11_open 140 = .ok (.iconst 0, 1) := by decide +kernel
theorem dX11_open_141 : decode cX11_open 141 = .ok (.ireturn, 1) := by decide +kernel
theorem dX11_open_142 : decode cX11_open 142 = .ok (.aload_n 0, 1) := by decide +kernel
theorem dX11_open_143 : decode cX11_open 143 = .ok (.getfield 7, 3) := by decide +kernel
theorem dX11_open_146 : decode cX11_open 146 = .ok (.iload_n 3, 1) := by decide +kernel
theorem dX11_open_147 : decode cX11_open 147 = .ok (.iconst 2, 1) := by decide +kernel
theorem dX11_open_148 : decode cX11_open 148 = .ok (.iastore, 1) := by decide +kernel
theorem dX11_open_149 : decode cX11_open 149 = .ok (.aload_n 0, 1) := by decide +kernel
theorem dX11_open_150 : decode cX11_open 150 = .ok (.dup, 1) := by decide +kernel
theorem dX11_open_151 : decode cX11_open 151 = .ok (.getfield 233, 3) := by decide +kernel
theorem dX11_open_154 : decode cX11_open 154 = .ok (.iconst 1, 1) := by decide +kernel
theorem dX11_open_155 : decode cX11_open 155 = .ok (.iadd, 1) := by decide +kernel
theorem dX11_open_156 : decode cX11_open 156 = .ok (.putfield 233, 3) := by decide +kernel
theorem dX11_open_159 : decode cX11_open 159 = .ok (.aload_n 0, 1) := by decide +kernel
theorem dX11_open_160 : decode cX11_open 160 = .ok (.getfield 26, 3) := by decide +kernel
theorem dX11_open_163 : decode cX11_open 163 = .ok (.iload_n 3, 1) := by decide +kernel
theorem dX11_open_164 : decode cX11_open 164 = .ok (.aload_n 0, 1) := by decide +kernel
theorem dX11_open_165 : decode cX11_open 165 = .ok (.getfield 233, 3) := by decide +kernel
theorem dX11_open_168 : decode cX11_open 168 = .ok (.iastore, 1) := by decide +kernel
theorem dX11_open_169 : decode cX11_open 169 = .ok (.aload_n 0, 1) := by decide +kernel
theorem dX11_open_170 : decode cX11_open 170 = .ok (.getfield 13, 3) := by decide +kernel
theorem dX11_open_173 : decode cX11_open 173 = .ok (.iload_n 3, 1) := by decide +kernel
theorem dX11_open_174 : decode cX11_open 174 = .ok (.laload, 1) := by decide +kernel
theorem dX11_open_175 : decode cX11_open 175 = .ok (.invokestatic 111, 3) := by decide +kernel
theorem dX11_open_178 : decode cX11_open 178 = .ok (.ireturn, 1) := by decide +kernel
theorem dX11_lock_0 : decode cX11_lock 0 = .ok (.aload_n 0, 1) := by decide +kernel
theorem dX11_lock_1 : decode cX11_lock 1 = .ok (.iload_n 1, 1) := by decide +kernel
theorem dX11_lock_2 : decode cX11_lock 2 = .ok (.invokestatic 135, 3) := by decide +kernel
theorem dX11_lock_5 : decode cX11_lock 5 = .ok (.ifCond .eq 10, 3) := by decide +kernel
theorem dX11_lock_8 : decode cX11_lock 8 = .ok (.iload_n 2, 1) := by decide +kernel
theorem dX11_lock_9 : decode cX11_lock 9 = .ok (.invokestatic 139, 3) := by decide +kernel
theorem dX11_lock_12 : decode cX11_lock 12 = .ok (.ifCond .ne 7, 3) := by decide +kernel
theorem dX11_lock_15 : decode cX11_lock 15 = .ok (.iconst 1, 1) := by decide +kernel
theorem dX11_lock_16 : decode cX11_lock 16 = .ok (.goto 40, 3) := by decide +kernel
theorem dX11_lock_19 : decode cX11_lock 19 = .ok (.iload_n 3, 1) := by decide +kernel
theorem dX11_lock_20 : decode cX11_lock 20 = .ok (.iconst 1, 1) := by decide +kernel
theorem dX11_lock_21 : decode cX11_lock 21 = .ok (.bipush 48, 2) := by decide +kernel
theorem dX11_lock_23 : decode cX11_lock 23 = .ok (.invokestatic 105, 3) := by decide +kernel
theorem dX11_lock_26 : decode cX11_lock 26 = .ok (.ifCond .ne 7, 3) := by decide +kernel
theorem dX11_lock_29 : decode cX11_lock 29 = .ok (.iconst 2, 1) := by decide +kernel
theorem dX11_lock_30 : decode cX11_lock 30 = .ok (.goto 26, 3) := by decide +kernel
theorem dX11_lock_33 : decode cX11_lock 33 = .ok (.aload_n 0, 1) := by decide +kernel
theorem dX11_lock_34 : decode cX11_lock 34 = .ok (.iload_n 2, 1) := by decide +kernel
theorem dX11_lock_35 : decode cX11_lock 35 = .ok (.invokevirtual 161, 3) := by decide +kernel
theorem dX11_lock_38 : decode cX11_lock 38 = .ok (.iconst (-1), 1) := by decide +kernel
theorem dX11_lock_39 : decode cX11_lock 39 = .ok (.if_icmp .eq 16, 3) := by decide +kernel
theorem dX11_lock_42 : decode cX11_lock 42 = .ok (.aload_n 0, 1) := by decide +kernel
theorem dX11_lock_43 : decode cX11_lock 43 = .ok (.iload_n 2, 1) := by decide +kernel
theorem dX11_lock_44 : decode cX11_lock 44 = .ok (.invokevirtual 161, 3) := by decide +kernel
theorem dX11_lock_47 : decode cX11_lock 47 = .ok (.iload_n 1, 1) := by decide +kernel
theorem dX11_lock_48 : decode cX11_lock 48 = .ok (.if_icmp .eq 7, 3) := by decide +kernel
theorem dX11_lock_51 : decode cX11_lock 51 = .ok (.iconst 3, 1) := by decide +kernel
theorem dX11_lock_52 : decode cX11_lock 52 = .ok (.goto 4, 3) := by decide +kernel
theorem dX11_lock_55 : decode cX11_lock 55 = .ok (.iconst 0, 1) := by decide +kernel
theorem dX11_lock_56 : decode cX11_lock 56 = .ok (.putfield 101, 3) := by decide +kernel
theorem dX11_lock_59 : decode cX11_lock 59 = .ok (.aload_n 0, 1) := by decide +kernel
theorem dX11_lock_60 : decode cX11_lock 60 = .ok (.getfield 101, 3) := by decide +kernel
theorem dX11_lock_63 : decode cX11_lock 63 = .ok (.ifCond .le 5, 3) := by decide +kernel
theorem dX11_lock_66 : decode cX11_lock 66 = .ok (.iconst 0, 1) := by decide +kernel
theorem dX11_lock_67 : decode cX11_lock 67 = .ok (.ireturn, 1) := by decide +kernel
theorem dX11_lock_68 : decode cX11_lock 68 = .ok (.aload_n 0, 1) := by decide +kernel
theorem dX11_lock_69 : decode cX11_lock 69 = .ok (.getfield 62, 3) := by decide +kernel
theorem dX11_lock_72 : decode cX11_lock 72 = .ok (.iload_n 2, 1) := by decide +kernel
theorem dX11_lock_73 : decode cX11_lock 73 = .ok (.iload_n 1, 1) := by decide +kernel
theorem dX11_lock_74 : decode cX11_lock 74 = .ok (.iconst 1, 1) := by decide +kernel
theorem dX11_lock_75 : decode cX11_lock 75 = .ok (.iadd, 1) := by decide +kernel
theorem dX11_lock_76 : decode cX11_lock 76 = .ok (.iastore, 1) := by decide +kernel
theorem dX11_lock_77 : decode cX11_lock 77 = .ok (.aload_n 0, 1) := by decide +kernel
theorem dX11_lock_78 : decode cX11_lock 78 = .ok (.getfield 65, 3) := by decide +kernel
theorem dX11_lock_81 : decode cX11_lock 81 = .ok (.iload_n 2, 1) := by decide +kernel
theorem dX11_lock_82 : decode cX11_lock 82 = .ok (.aload_n 0, 1) := by decide +kernel
theorem dX11_lock_83 : decode cX11_lock 83 = .ok (.getfield 132, 3) := by decide +kernel
theorem dX11_lock_86 : decode cX11_lock 86 = .ok (.iload_n 3, 1) := by decide +kernel
theorem dX11_lock_87 : decode cX11_lock 87 = .ok (.iadd, 1) := by decide +kernel
theorem dX11_lock_88 : decode cX11_lock 88 = .ok (.iastore, 1) := by decide +kernel
theorem dX11_lock_89 : decode cX11_lock 89 = .ok (.aload_n 0, 1) := by decide +kernel
theorem dX11_lock_90 : decode cX11_lock 90 = .ok (.getfield 65, 3) := by decide +kernel
theorem dX11_lock_93 : decode cX11_lock 93 = .ok (.iload_n 2, 1) := by decide +kernel
theorem dX11_lock_94 : decode cX11_lock 94 = .ok (.iaload, 1) := by decide +kernel
theorem dX11_lock_95 : decode cX11_lock 95 = .ok (.ireturn, 1) := by decide +kernel
theorem dX11_breakLock_0 : decode cX11_breakLock 0 = .ok (.aload_n 0, 1) := by decide +kernel
theorem dX11_breakLock_1 : decode cX11_breakLock 1 = .ok (.iload_n 1, 1) := by decide +kernel
theorem dX11_breakLock_2 : decode cX11_breakLock 2 = .ok (.invokestatic 139, 3) := by decide +kernel
theorem dX11_breakLock_5 : decode cX11_breakLock 5 = .ok (.ifCond .ne 7, 3) := by decide +kernel
theorem dX11_breakLock_8 : decode cX11_breakLock 8 = .ok (.iconst 1, 1) := by decide +kernel
theorem dX11_breakLock_9 : decode cX11_breakLock 9 = .ok (.goto 17, 3) := by decide +kernel
theorem dX11_breakLock_12 : decode cX11_breakLock 12 = .ok (.aload_n 0, 1) := by decide +kernel
theorem dX11_breakLock_13 : decode cX11_breakLock 13 = .ok (.iload_n 1, 1) := by decide +kernel
theorem dX11_breakLock_14 : decode cX11_breakLock 14 = .ok (.invokevirtual 161, 3) := by decide +kernel
theorem dX11_breakLock_17 : decode cX11_breakLock 17 = .ok (.iconst (-1), 1) := by decide +kernel
theorem dX11_breakLock_18 : decode cX11_breakLock 18 = .ok (.if_icmp .ne 7, 3) := by decide +kernel
theorem dX11_breakLock_21 : decode cX11_breakLock 21 = .ok (.iconst 2, 1) := by decide +kernel
theorem dX11_breakLock_22 : decode cX11_breakLock 22 = .ok (.goto 4, 3) := by decide +kernel
theorem dX11_breakLock_25 : decode cX11_breakLock 25 = .ok (.iconst 0, 1) := by decide +kernel
theorem dX11_breakLock_26 : decode cX11_breakLock 26 = .ok (.putfield 101, 3) := by decide +kernel
theorem dX11_breakLock_29 : decode cX11_breakLock 29 = .ok (.aload_n 0, 1) := by decide +kernel
theorem dX11_breakLock_30 : decode cX11_breakLock 30 = .ok (.getfield 101, 3) := by decide +kernel
theorem dX11_breakLock_33 : decode cX11_breakLock 33 = .ok (.ifCond .le 5, 3) := by decide +kernel
theorem dX11_breakLock_36 : decode cX11_breakLock 36 = .ok (.iconst 0, 1) := by decide +kernel
theorem dX11_breakLock_37 : decode cX11_breakLock 37 = .ok (.ireturn, 1) := by decide +kernel
theorem dX11_breakLock_38 : decode cX11_breakLock 38 = .ok (.aload_n 0, 1) := by decide +kernel
theorem dX11_breakLock_39 : decode cX11_breakLock 39 = .ok (.iload_n 1, 1) := by decide +kernel
theorem dX11_breakLock_40 : decode cX11_breakLock 40 = .ok (.invokevirtual 161, 3) := by decide +kernel
theorem dX11_breakLock_43 : decode cX11_breakLock 43 = .ok (.istore_n 2, 1) := by decide +kernel
theorem dX11_breakLock_44 : decode cX11_breakLock 44 = .ok (.aload_n 0, 1) := by decide +kernel
theorem dX11_breakLock_45 : decode cX11_breakLock 45 = .ok (.getfield 62, 3) := by decide +kernel
theorem dX11_breakLock_48 : decode cX11_breakLock 48 = .ok (.iload_n 1, 1) := by decide +kernel
theorem dX11_breakLock_49 : decode cX11_breakLock 49 = .ok (.iconst 0, 1) := by decide +kernel
theorem dX11_breakLock_50 : decode cX11_breakLock 50 = .ok (.iastore, 1) := by decide +kernel
theorem dX11_breakLock_51 : decode cX11_breakLock 51 = .ok (.iload_n 2, 1) := by decide +kernel
theorem dX11_breakLock_52 : decode cX11_breakLock 52 = .ok (.ireturn, 1) := by decide +kernel
theorem dX11_share_0 : decode cX11_share 0 = .ok (.aload_n 0, 1) := by decide +kernel
theorem dX11_share_1 : decode cX11_share 1 = .ok (.iload_n 1, 1) := by decide +kernel
theorem dX11_share_2 : decode cX11_share 2 = .ok (.iconst 0, 1) := by decide +kernel
theorem dX11_share_3 : decode cX11_share 3 = .ok (.iconst 3, 1) := by decide +kernel
theorem dX11_share_4 : decode cX11_share 4 = .ok (.invokestatic 105, 3) := by decide +kernel
theorem dX11_share_7 : decode cX11_share 7 = .ok (.ifCond .eq 10, 3) := by decide +kernel
theorem dX11_share_10 : decode cX11_share 10 = .ok (.iload_n 2, 1) := by decide +kernel
theorem dX11_share_11 : decode cX11_share 11 = .ok (.invokestatic 135, 3) := by decide +kernel
theorem dX11_share_14 : decode cX11_share 14 = .ok (.ifCond .ne 7, 3) := by decide +kernel
theorem dX11_share_17 : decode cX11_share 17 = .ok (.iconst 1, 1) := by decide +kernel
theorem dX11_share_18 : decode cX11_share 18 = .ok (.goto 29, 3) := by decide +kernel
theorem dX11_share_21 : decode cX11_share 21 = .ok (.iload_n 3, 1) := by decide +kernel
theorem dX11_share_22 : decode cX11_share 22 = .ok (.iconst 0, 1) := by decide +kernel
theorem dX11_share_23 : decode cX11_share 23 = .ok (.iconst 2, 1) := by decide +kernel
theorem dX11_share_24 : decode cX11_share 24 = .ok (.invokestatic 105, 3) := by decide +kernel
theorem dX11_share_27 : decode cX11_share 27 = .ok (.ifCond .eq 15, 3) := by decide +kernel
theorem dX11_share_30 : decode cX11_share 30 = .ok (.iload 4, 2) := by decide +kernel
theorem dX11_share_32 : decode cX11_share 32 = .ok (.iconst 1, 1) := by decide +kernel
theorem dX11_share_33 : decode cX11_share 33 = .ok (.sipush 2000, 3) := by decide +kernel
theorem dX11_share_36 : decode cX11_share 36 = .ok (.invokestatic 105, 3) := by decide +kernel
theorem dX11_share_39 : decode cX11_share 39 = .ok (.ifCond .ne 7, 3) := by decide +kernel
theorem dX11_share_42 : decode cX11_share 42 = .ok (.iconst 2, 1) := by decide +kernel
theorem dX11_share_43 : decode cX11_share 43 = .ok (.goto 4, 3) := by decide +kernel
theorem dX11_share_46 : decode cX11_share 46 = .ok (.iconst 0, 1) := by decide +kernel
theorem dX11_share_47 : decode cX11_share 47 = .ok (.putfield 101, 3) := by decide +kernel
theorem dX11_share_50 : decode cX11_share 50 = .ok (.aload_n 0, 1) := by decide +kernel
theorem dX11_share_51 : decode cX11_share 51 = .ok (.getfield 101, 3) := by decide +kernel
theorem dX11_share_54 : decode cX11_share 54 = .ok (.ifCond .ne 31, 3) := by decide +kernel
theorem dX11_share_57 : decode cX11_share 57 = .ok (.aload_n 0, 1) := by decide +kernel
theorem dX11_share_58 : decode cX11_share 58 = .ok (.getfield 68, 3) := by decide +kernel
theorem dX11_share_61 : decode cX11_share 61 = .ok (.iconst 3, 1) := by decide +kernel
theorem dX11_share_62 : decode cX11_share 62 = .ok (.iload_n 1, 1) := by decide +kernel
theorem dX11_share_63 : decode cX11_share 63 = .ok (.imul, 1) := by decide +kernel
theorem dX11_share_64 : decode cX11_share 64 = .ok (.iload_n 2, 1) := by decide +kernel
theorem dX11_share_65 : decode cX11_share 65 = .ok (.iadd, 1) := by decide +kernel
theorem dX11_share_66 : decode cX11_share 66 = .ok (.iload_n 3, 1) := by decide +kernel
theorem dX11_share_67 : decode cX11_share 67 = .ok (.iastore, 1) := by decide +kernel
theorem dX11_share_68 : decode cX11_share 68 = .ok (.aload_n 0, 1) := by decide +kernel
theorem dX11_share_69 : decode cX11_share 69 = .ok (.getfield 71, 3) := by decide +kernel
theorem dX11_share_72 : decode cX11_share 72 = .ok (.iconst 3, 1) := by decide +kernel
theorem dX11_share_73 : decode cX11_share 73 = .ok (.iload_n 1, 1) := by decide +kernel
theorem dX11_share_74 : decode cX11_share 74 = .ok (.imul, 1) := by decide +kernel
theorem dX11_share_75 : decode cX11_share 75 = .ok (.iload_n 2, 1) := by decide +kernel
theorem dX11_share_76 : decode cX11_share 76 = .ok (.iadd, 1) := by decide +kernel
theorem dX11_share_77 : decode cX11_share 77 = .ok (.aload_n 0, 1) := by decide +kernel
theorem dX11_share_78 : decode cX11_share 78 = .ok (.getfield 132, 3) := by decide +kernel
theorem dX11_share_81 : decode cX11_share 81 = .ok (.iload 4, 2) := by decide +kernel
theorem dX11_share_83 : decode cX11_share 83 = .ok (.iadd, 1) := by decide +kernel
theorem dX11_share_84 : decode cX11_share 84 = .ok (.iastore, 1) := by decide +kernel
theorem dX11_share_85 : decode cX11_share 85 = .ok (.return_, 1) := by decide +kernel
theorem dX11_hold_0 : decode cX11_hold 0 = .ok (.aload_n 0, 1) := by decide +kernel
theorem dX11_hold_1 : decode cX11_hold 1 = .ok (.iload_n 1, 1) := by decide +kernel
theorem dX11_hold_2 : decode cX11_hold 2 = .ok (.invokestatic 139, 3) := by decide +kernel
theorem dX11_hold_5 : decode cX11_hold 5 = .ok (.ifCond .ne 7, 3) := by decide +kernel
theorem dX11_hold_8 : decode cX11_hold 8 = .ok (.iconst 1, 1) := by decide +kernel
theorem dX11_hold_9 : decode cX11_hold 9 = .ok (.goto 43, 3) := by decide +kernel
theorem dX11_hold_12 : decode cX11_hold 12 = .ok (.iload_n 2, 1) := by decide +kernel
theorem dX11_hold_13 : decode cX11_hold 13 = .ok (.iconst 0, 1) := by decide +kernel
theorem dX11_hold_14 : decode cX11_hold 14 = .ok (.sipush 2000, 3) := by decide +kernel
theorem dX11_hold_17 : decode cX11_hold 17 = .ok (.invokestatic 105, 3) := by decide +kernel
theorem dX11_hold_20 : decode cX11_hold 20 = .ok (.ifCond .eq 14, 3) := by decide +kernel
theorem dX11_hold_23 : decode cX11_hold 23 = .ok (.iload_n 3, 1) := by decide +kernel
theorem dX11_hold_24 : decode cX11_hold 24 = .ok (.iload_n 2, 1) := by decide +kernel
theorem dX11_hold_25 : decode cX11_hold 25 = .ok (.sipush 2000, 3) := by decide +kernel
theorem dX11_hold_28 : decode cX11_hold 28 = .ok (.invokestatic 105, 3) := by decide +kernel
theorem dX11_hold_31 : decode cX11_hold 31 = .ok (.ifCond .ne 7, 3) := by decide +kernel
theorem dX11_hold_34 : decode cX11_hold 34 = .ok (.iconst 2, 1) := by decide +kernel
theorem dX11_hold_35 : decode cX11_hold 35 = .ok (.goto 17, 3) := by decide +kernel
theorem dX11_hold_38 : decode cX11_hold 38 = .ok (.aload_n 0, 1) := by decide +kernel
theorem dX11_hold_39 : decode cX11_hold 39 = .ok (.getfield 236, 3) := by decide +kernel
theorem dX11_hold_42 : decode cX11_hold 42 = .ok (.bipush 10, 2) := by decide +kernel
theorem dX11_hold_44 : decode cX11_hold 44 = .ok (.if_icmp .ne 7, 3) := by decide +kernel
theorem dX11_hold_47 : decode cX11_hold 47 = .ok (.iconst 3, 1) := by decide +kernel
theorem dX11_hold_48 : decode cX11_hold 48 = .ok (.goto 4, 3) := by decide +kernel
theorem dX11_hold_51 : decode cX11_hold 51 = .ok (.iconst 0, 1) := by decide +kernel
theorem dX11_hold_52 : decode cX11_hold 52 = .ok (.putfield 101, 3) := by decide +kernel
theorem dX11_hold_55 : decode cX11_hold 55 = .ok (.aload_n 0, 1) := by decide +kernel
theorem dX11_hold_56 : decode cX11_hold 56 = .ok (.getfield 101, 3) := by decide +kernel
theorem dX11_hold_59 : decode cX11_hold 59 = .ok (.ifCond .le 5, 3) := by decide +kernel
theorem dX11_hold_62 : decode cX11_hold 62 = .ok (.iconst 0, 1) := by decide +kernel
theorem dX11_hold_63 : decode cX11_hold 63 = .ok (.ireturn, 1) := by decide +kernel
theorem dX11_hold_64 : decode cX11_hold 64 = .ok (.aload_n 0, 1) := by decide +kernel
theorem dX11_hold_65 : decode cX11_hold 65 = .ok (.getfield 74, 3) := by decide +kernel
theorem dX11_hold_68 : decode cX11_hold 68 = .ok (.aload_n 0, 1) := by decide +kernel
theorem dX11_hold_69 : decode cX11_hold 69 = .ok (.getfield 236, 3) := by decide +kernel
theorem dX11_hold_72 : decode cX11_hold 72 = .ok (.iload_n 1, 1) := by decide +kernel
theorem dX11_hold_73 : decode cX11_hold 73 = .ok (.iastore, 1) := by decide +kernel
theorem dX11_hold_74 : decode cX11_hold 74 = .ok (.aload_n 0, 1) := by decide +kernel
theorem dX11_hold_75 : decode cX11_hold 75 = .ok (.getfield 77, 3) := by decide +kernel
theorem dX11_hold_78 : decode cX11_hold 78 = .ok (.aload_n 0, 1) := by decide +kernel
theorem dX11_hold_79 : decode cX11_hold 79 = .ok (.getfield 236, 3) := by decide +kernel
theorem dX11_hold_82 : decode cX11_hold 82 = .ok (.iload_n 2, 1) := by decide +kernel
theorem dX11_hold_83 : decode cX11_hold 83 = .ok (.iastore, 1) := by decide +kernel
theorem dX11_hold_84 : decode cX11_hold 84 = .ok (.aload_n 0, 1) := by decide +kernel
theorem dX11_hold_85 : decode cX11_hold 85 = .ok (.getfield 80, 3) := by decide +kernel
theorem dX11_hold_88 : decode cX11_hold 88 = .ok (.aload_n 0, 1) := by decide +kernel
theorem dX11_hold_89 : decode cX11_hold 89 = .ok (.getfield 236, 3) := by decide +kernel
theorem dX11_hold_92 : decode cX11_hold 92 = .ok (.iload_n 3, 1) := by decide +kernel
theorem dX11_hold_93 : decode cX11_hold 93 = .ok (.iastore, 1) := by decide +kernel
theorem dX11_hold_94 : decode cX11_hold 94 = .ok (.aload_n 0, 1) := by decide +kernel
theorem dX11_hold_95 : decode cX11_hold 95 = .ok (.dup, 1) := by decide +kernel
theorem dX11_hold_96 : decode cX11_hold 96 = .ok (.getfield 236, 3) := by decide +kernel
theorem dX11_hold_99 : decode cX11_hold 99 = .ok (.iconst 1, 1) := by decide +kernel
theorem dX11_hold_100 : decode cX11_hold 100 = .ok (.iadd, 1) := by decide +kernel
theorem dX11_hold_101 : decode cX11_hold 101 = .ok (.putfield 236, 3) := by decide +kernel
theorem dX11_hold_104 : decode cX11_hold 104 = .ok (.aload_n 0, 1) := by decide +kernel
theorem dX11_hold_105 : decode cX11_hold 105 = .ok (.getfield 236, 3) := by decide +kernel
theorem dX11_hold_108 : decode cX11_hold 108 = .ok (.ireturn, 1) := by decide +kernel
theorem dX11_release_0 : decode cX11_release 0 = .ok (.aload_n 0, 1) := by decide +kernel
theorem dX11_release_1 : decode cX11_release 1 = .ok (.iconst 0, 1) := by decide +kernel
theorem dX11_release_2 : decode cX11_release 2 = .ok (.putfield 101, 3) := by decide +kernel
theorem dX11_release_5 : decode cX11_release 5 = .ok (.aload_n 0, 1) := by decide +kernel
theorem dX11_release_6 : decode cX11_release 6 = .ok (.getfield 236, 3) := by decide +kernel
theorem dX11_release_9 : decode cX11_release 9 = .ok (.istore_n 1, 1) := by decide +kernel
theorem dX11_release_10 : decode cX11_release 10 = .ok (.aload_n 0, 1) := by decide +kernel
theorem dX11_release_11 : decode cX11_release 11 = .ok (.iconst 0, 1) := by decide +kernel
theorem dX11_release_12 : decode cX11_release 12 = .ok (.putfield 236, 3) := by decide +kernel
theorem dX11_release_15 : decode cX11_release 15 = .ok (.iload_n 1, 1) := by decide +kernel
theorem dX11_release_16 : decode cX11_release 16 = .ok (.ireturn, 1) := by decide +kernel
theorem dX11_isHeld_0 : decode cX11_isHeld 0 = .ok (.iconst 0, 1) := by decide +kernel
theorem dX11_isHeld_1 : decode cX11_isHeld 1 = .ok (.istore_n 2, 1) := by decide +kernel
theorem dX11_isHeld_2 : decode cX11_isHeld 2 = .ok (.iconst 0, 1) := by decide +kernel
theorem dX11_isHeld_3 : decode cX11_isHeld 3 = .ok (.istore_n 3, 1) := by decide +kernel
theorem dX11_isHeld_4 : decode cX11_isHeld 4 = .ok (.iload_n 3, 1) := by decide +kernel
theorem dX11_isHeld_5 : decode cX11_isHeld 5 = .ok (.aload_n 0, 1) := by decide +kernel
theorem dX11_isHeld_6 : decode cX11_isHeld 6 = .ok (.getfield 236, 3) := by decide +kernel
theorem dX11_isHeld_9 : decode cX11_isHeld 9 = .ok (.if_icmp .ge 58, 3) := by decide +kernel
theorem dX11_isHeld_12 : decode cX11_isHeld 12 = .ok (.iload_n 2, 1) := by decide +kernel
theorem dX11_isHeld_13 : decode cX11_isHeld 13 = .ok (.ifCond .ne 42, 3) := by decide +kernel
theorem dX11_isHeld_16 : decode cX11_isHeld 16 = .ok (.aload_n 0, 1) := by decide +kernel
theorem dX11_isHeld_17 : decode cX11_isHeld 17 = .ok (.getfield 74, 3) := by decide +kernel
theorem dX11_isHeld_20 : decode cX11_isHeld 20 = .ok (.iload_n 3, 1) := by decide +kernel
theorem dX11_isHeld_21 : decode cX11_isHeld 21 = .ok (.iaload, 1) := by decide +kernel
theorem dX11_isHeld_22 : decode cX11_isHeld 22 = .ok (.aload_n 0, 1) := by decide +kernel
theorem dX11_isHeld_23 : decode cX11_isHeld 23 = .ok (.getfield 44, 3) := by decide +kernel
theorem dX11_isHeld_26 : decode cX11_isHeld 26 = .ok (.iload_n 1, 1) := by decide +kernel
theorem dX11_isHeld_27 : decode cX11_isHeld 27 = .ok (.iaload, 1) := by decide +kernel
theorem dX11_isHeld_28 : decode cX11_isHeld 28 = .ok (.if_icmp .ne 31, 3) := by decide +kernel
theorem dX11_isHeld_31 : decode cX11_isHeld 31 = .ok (.aload_n 0, 1) := by decide +kernel
theorem dX11_isHeld_32 : decode cX11_isHeld 32 = .ok (.getfield 47, 3) := by decide +kernel
theorem dX11_isHeld_35 : decode cX11_isHeld 35 = .ok (.iload_n 1, 1) := by decide +kernel
theorem dX11_isHeld_36 : decode cX11_isHeld 36 = .ok (.iaload, 1) := by decide +kernel
theorem dX11_isHeld_37 : decode cX11_isHeld 37 = .ok (.aload_n 0, 1) := by decide +kernel
theorem dX11_isHeld_38 : decode cX11_isHeld 38 = .ok (.getfield 77, 3) := by decide +kernel
theorem dX11_isHeld_41 : decode cX11_isHeld 41 = .ok (.iload_n 3, 1) := by decide +kernel
theorem dX11_isHeld_42 : decode cX11_isHeld 42 = .ok (.iaload, 1) := by decide +kernel
theorem dX11_isHeld_43 : decode cX11_isHeld 43 = .ok (.aload_n 0, 1) := by decide +kernel
theorem dX11_isHeld_44 : decode cX11_isHeld 44 = .ok (.getfield 80, 3) := by decide +kernel
theorem dX11_isHeld_47 : decode cX11_isHeld 47 = .ok (.iload_n 3, 1) := by decide +kernel
theorem dX11_isHeld_48 : decode cX11_isHeld 48 = .ok (.iaload, 1) := by decide +kernel
theorem dX11_isHeld_49 : decode cX11_isHeld 49 = .ok (.invokestatic 105, 3) := by decide +kernel
theorem dX11_isHeld_52 : decode cX11_isHeld 52 = .ok (.ifCond .eq 7, 3) := by decide +kernel
theorem dX11_isHeld_55 : decode cX11_isHeld 55 = .ok (.iconst 1, 1) := by decide +kernel
theorem dX11_isHeld_56 : decode cX11_isHeld 56 = .ok (.goto 4, 3) := by decide +kernel
theorem dX11_isHeld_59 : decode cX11_isHeld 59 = .ok (.iconst 0, 1) := by decide +kernel
theorem dX11_isHeld_60 : decode cX11_isHeld 60 = .ok (.istore_n 2, 1) := by decide +kernel
theorem dX11_isHeld_61 : decode cX11_isHeld 61 = .ok (.iinc 3 1, 3) := by decide +kernel
theorem dX11_isHeld_64 : decode cX11_isHeld 64 = .ok (.goto (-60), 3) := by decide +kernel
theorem dX11_isHeld_67 : decode cX11_isHeld 67 = .ok (.iload_n 2, 1) := by decide +kernel
theorem dX11_isHeld_68 : decode cX11_isHeld 68 = .ok (.ireturn, 1) := by decide +kernel
theorem dX11_isFollowed_0 : decode cX11_isFollowed 0 = .ok (.iconst 0, 1) := by decide +kernel
theorem dX11_isFollowed_1 : decode cX11_isFollowed 1 = .ok (.istore_n 2, 1) := by decide +kernel
theorem dX11_isFollowed_2 : decode cX11_isFollowed 2 = .ok (.iload_n 1, 1) := by decide +kernel
theorem dX11_isFollowed_3 : decode cX11_isFollowed 3 = .ok (.iconst 1, 1) := by decide +kernel
theorem dX11_isFollowed_4 : decode cX11_isFollowed 4 = .ok (.iadd, 1) := by decide +kernel
theorem dX11_isFollowed_5 : decode cX11_isFollowed 5 = .ok (.istore_n 3, 1) := by decide +kernel
theorem dX11_isFollowed_6 : decode cX11_isFollowed 6 = .ok (.iload_n 3, 1) := by decide +kernel
theorem dX11_isFollowed_7 : decode cX11_isFollowed 7 = .ok (.aload_n 0, 1) := by decide +kernel
theorem dX11_isFollowed_8 : decode cX11_isFollowed 8 = .ok (.getfield 155, 3) := by decide +kernel
theorem dX11_isFollowed_11 : decode cX11_isFollowed 11 = .ok (.if_icmp .ge 64, 3) := by decide +kernel
theorem dX11_isFollowed_14 : decode cX11_isFollowed 14 = .ok (.iload_n 2, 1) := by decide +kernel
theorem dX11_isFollowed_15 : decode cX11_isFollowed 15 = .ok (.ifCond .ne 48, 3) := by decide +kernel
theorem dX11_isFollowed_18 : decode cX11_isFollowed 18 = .ok (.aload_n 0, 1) := by decide +kernel
theorem dX11_isFollowed_19 : decode cX11_isFollowed 19 = .ok (.getfield 44, 3) := by decide +kernel
theorem dX11_isFollowed_22 : decode cX11_isFollowed 22 = .ok (.iload_n 3, 1) := by decide +kernel
theorem dX11_isFollowed_23 : decode cX11_isFollowed 23 = .ok (.iaload, 1) := by decide +kernel
theorem dX11_isFollowed_24 : decode cX11_isFollowed 24 = .ok (.aload_n 0, 1) := by decide +kernel
theorem dX11_isFollowed_25 : decode cX11_isFollowed 25 = .ok (.getfield 44, 3) := by decide +kernel
theorem dX11_isFollowed_28 : decode cX11_isFollowed 28 = .ok (.iload_n 1, 1) := by decide +kernel
theorem dX11_isFollowed_29 : decode cX11_isFollowed 29 = .ok (.iaload, 1) := by decide +kernel
theorem dX11_isFollowed_30 : decode cX11_isFollowed 30 = .ok (.if_icmp .ne 37, 3) := by decide +kernel
theorem dX11_isFollowed_33 : decode cX11_isFollowed 33 = .ok (.aload_n 0, 1) := by decide +kernel
theorem dX11_isFollowed_34 : decode cX11_isFollowed 34 = .ok (.getfield 59, 3) := by decide +kernel
theorem dX11_isFollowed_37 : decode cX11_isFollowed 37 = .ok (.iload_n 3, 1) := by decide +kernel
theorem dX11_isFollowed_38 : decode cX11_isFollowed 38 = .ok (.iaload, 1) := by decide +kernel
theorem dX11_isFollowed_39 : decode cX11_isFollowed 39 = .ok (.ifCond .ne 28, 3) := by decide +kernel
theorem dX11_isFollowed_42 : decode cX11_isFollowed 42 = .ok (.aload_n 0, 1) := by decide +kernel
theorem dX11_isFollowed_43 : decode cX11_isFollowed 43 = .ok (.getfield 47, 3) := by decide +kernel
theorem dX11_isFollowed_46 : decode cX11_isFollowed 46 = .ok (.iload_n 3, 1) := by decide +kernel
theorem dX11_isFollowed_47 : decode cX11_isFollowed 47 = .ok (.iaload, 1) := by decide +kernel
theorem dX11_isFollowed_48 : decode cX11_isFollowed 48 = .ok (.bipush 24, 2) := by decide +kernel
theorem dX11_isFollowed_50 : decode cX11_isFollowed 50 = .ok (.idiv, 1) := by decide +kernel
theorem dX11_isFollowed_51 : decode cX11_isFollowed 51 = .ok (.aload_n 0, 1) := by decide +kernel
theorem dX11_isFollowed_52 : decode cX11_isFollowed 52 = .ok (.getfield 47, 3) := by decide +kernel
theorem dX11_isFollowed_55 : decode cX11_isFollowed 55 = .ok (.iload_n 1, 1) := by decide +kernel
theorem dX11_isFollowed_56 : decode cX11_isFollowed 56 = .ok (.iaload, 1) := by decide +kernel
theorem dX11_isFollowed_57 : decode cX11_isFollowed 57 = .ok (.bipush 24, 2) := by decide +kernel
theorem dX11_isFollowed_59 : decode cX11_isFollowed 59 = .ok (.idiv, 1) := by decide +kernel
theorem dX11_isFollowed_60 : decode cX11_isFollowed 60 = .ok (.if_icmp .ne 7, 3) := by decide +kernel
theorem dX11_isFollowed_63 : decode cX11_isFollowed 63 = .ok (.iconst 1, 1) := by decide +kernel
theorem dX11_isFollowed_64 : decode cX11_isFollowed 64 = .ok (.goto 4, 3) := by decide +kernel
theorem dX11_isFollowed_67 : decode cX11_isFollowed 67 = .ok (.iconst 0, 1) := by decide +kernel
theorem dX11_isFollowed_68 : decode cX11_isFollowed 68 = .ok (.istore_n 2, 1) := by decide +kernel
theorem dX11_isFollowed_69 : decode cX11_isFollowed 69 = .ok (.iinc 3 1, 3) := by decide +kernel
theorem dX11_isFollowed_72 : decode cX11_isFollowed 72 = .ok (.goto (-66), 3) := by decide +kernel
theorem dX11_isFollowed_75 : decode cX11_isFollowed 75 = .ok (.iload_n 2, 1) := by decide +kernel
theorem dX11_isFollowed_76 : decode cX11_isFollowed 76 = .ok (.ireturn, 1) := by decide +kernel
theorem dX11_marks_0 : decode cX11_marks 0 = .ok (.aload_n 0, 1) := by decide +kernel
theorem dX11_marks_1 : decode cX11_marks 1 = .ok (.lload_n 1, 1) := by decide +kernel
theorem dX11_marks_2 : decode cX11_marks 2 = .ok (.invokevirtual 202, 3) := by decide +kernel
theorem dX11_marks_5 : decode cX11_marks 5 = .ok (.istore_n 3, 1) := by decide +kernel
theorem dX11_marks_6 : decode cX11_marks 6 = .ok (.iconst 0, 1) := by decide +kernel
theorem dX11_marks_7 : decode cX11_marks 7 = .ok (.istore 4, 2) := by decide +kernel
theorem dX11_marks_9 : decode cX11_marks 9 = .ok (.iload 4, 2) := by decide +kernel
theorem dX11_marks_11 : decode cX11_marks 11 = .ok (.iload_n 3, 1) := by decide +kernel
theorem dX11_marks_12 : decode cX11_marks 12 = .ok (.if_icmp .ge 22, 3) := by decide +kernel
theorem dX11_marks_15 : decode cX11_marks 15 = .ok (.aload_n 0, 1) := by decide +kernel
theorem dX11_marks_16 : decode cX11_marks 16 = .ok (.getfield 98, 3) := by decide +kernel
theorem dX11_marks_19 : decode cX11_marks 19 = .ok (.aload_n 0, 1) := by decide +kernel
theorem dX11_marks_20 : decode cX11_marks 20 = .ok (.getfield 95, 3) := by decide +kernel
theorem dX11_marks_23 : decode cX11_marks 23 = .ok (.iload 4, 2) := by decide +kernel
theorem dX11_marks_25 : decode cX11_marks 25 = .ok (.iaload, 1) := by decide +kernel
theorem dX11_marks_26 : decode cX11_marks 26 = .ok (.iconst 1, 1) := by decide +kernel
theorem dX11_marks_27 : decode cX11_marks 27 = .ok (.iastore, 1) := by decide +kernel
theorem dX11_marks_28 : decode cX11_marks 28 = .ok (.iinc 4 1, 3) := by decide +kernel
theorem dX11_marks_31 : decode cX11_marks 31 = .ok (.goto (-22), 3) := by decide +kernel
theorem dX11_marks_34 : decode cX11_marks 34 = .ok (.return_, 1) := by decide +kernel
theorem dX11_dropsPieces_0 : decode cX11_dropsPieces 0 = .ok (.iconst 0, 1) := by decide +kernel
theorem dX11_dropsPieces_1 : decode cX11_dropsPieces 1 = .ok (.istore_n 1, 1) := by decide +kernel
theorem dX11_dropsPieces_2 : decode cX11_dropsPieces 2 = .ok (.iload_n 1, 1) := by decide +kernel
theorem dX11_dropsPieces_3 : decode cX11_dropsPieces 3 = .ok (.sipush 20000, 3) := by decide +kernel
theorem dX11_dropsPieces_6 : decode cX11_dropsPieces 6 = .ok (.if_icmp .ge 16, 3) := by decide +kernel
theorem dX11_dropsPieces_9 : decode cX11_dropsPieces 9 = .ok (.aload_n 0, 1) := by decide +kernel
theorem dX11_dropsPieces_10 : decode cX11_dropsPieces 10 = .ok (.getfield 98, 3) := by decide +kernel
theorem dX11_dropsPieces_13 : decode cX11_dropsPieces 13 = .ok (.iload_n 1, 1) := by decide +kernel
theorem dX11_dropsPieces_14 : decode cX11_dropsPieces 14 = .ok (.iconst 0, 1) := by decide +kernel
theorem dX11_dropsPieces_15 : decode cX11_dropsPieces 15 = .ok (.iastore, 1) := by decide +kernel
theorem dX11_dropsPieces_16 : decode cX11_dropsPieces 16 = .ok (.iinc 1 1, 3) := by decide +kernel
theorem dX11_dropsPieces_19 : decode cX11_dropsPieces 19 = .ok (.goto (-17), 3) := by decide +kernel
theorem dX11_dropsPieces_22 : decode cX11_dropsPieces 22 = .ok (.iconst 0, 1) := by decide +kernel
theorem dX11_dropsPieces_23 : decode cX11_dropsPieces 23 = .ok (.istore_n 1, 1) := by decide +kernel
theorem dX11_dropsPieces_24 : decode cX11_dropsPieces 24 = .ok (.iload_n 1, 1) := by decide +kernel
theorem dX11_dropsPieces_25 : decode cX11_dropsPieces 25 = .ok (.aload_n 0, 1) := by decide +kernel
theorem dX11_dropsPieces_26 : decode cX11_dropsPieces 26 = .ok (.getfield 155, 3) := by decide +kernel
theorem dX11_dropsPieces_29 : decode cX11_dropsPieces 29 = .ok (.if_icmp .ge 28, 3) := by decide +kernel
theorem dX11_dropsPieces_32 : decode cX11_dropsPieces 32 = .ok (.aload_n 0, 1) := by decide +kernel
theorem dX11_dropsPieces_33 : decode cX11_dropsPieces 33 = .ok (.getfield 59, 3) := by decide +kernel
theorem dX11_dropsPieces_36 : decode cX11_dropsPieces 36 = .ok (.iload_n 1, 1) := by decide +kernel
theorem dX11_dropsPieces_37 : decode cX11_dropsPieces 37 = .ok (.iaload, 1) := by decide +kernel
theorem dX11_dropsPieces_38 : decode cX11_dropsPieces 38 = .ok (.ifCond .ne 13, 3) := by decide +kernel
theorem dX11_dropsPieces_41 : decode cX11_dropsPieces 41 = .ok (.aload_n 0, 1) := by decide +kernel
theorem dX11_dropsPieces_42 : decode cX11_dropsPieces 42 = .ok (.aload_n 0, 1) := by decide +kernel
theorem dX11_dropsPieces_43 : decode cX11_dropsPieces 43 = .ok (.getfield 56, 3) := by decide +kernel
theorem dX11_dropsPieces_46 : decode cX11_dropsPieces 46 = .ok (.iload_n 1, 1) := by decide +kernel
theorem dX11_dropsPieces_47 : decode cX11_dropsPieces 47 = .ok (.laload, 1) := by decide +kernel
theorem dX11_dropsPieces_48 : decode cX11_dropsPieces 48 = .ok (.invokevirtual 239, 3) := by decide +kernel
theorem dX11_dropsPieces_51 : decode cX11_dropsPieces 51 = .ok (.iinc 1 1, 3) := by decide +kernel
theorem dX11_dropsPieces_54 : decode cX11_dropsPieces 54 = .ok (.goto (-30), 3) := by decide +kernel
theorem dX11_dropsPieces_57 : decode cX11_dropsPieces 57 = .ok (.iconst 0, 1) := by decide +kernel
theorem dX11_dropsPieces_58 : decode cX11_dropsPieces 58 = .ok (.istore_n 1, 1) := by decide +kernel
theorem dX11_dropsPieces_59 : decode cX11_dropsPieces 59 = .ok (.iload_n 1, 1) := by decide +kernel
theorem dX11_dropsPieces_60 : decode cX11_dropsPieces 60 = .ok (.bipush 48, 2) := by decide +kernel
theorem dX11_dropsPieces_62 : decode cX11_dropsPieces 62 = .ok (.if_icmp .ge 38, 3) := by decide +kernel
theorem dX11_dropsPieces_65 : decode cX11_dropsPieces 65 = .ok (.aload_n 0, 1) := by decide +kernel
theorem dX11_dropsPieces_66 : decode cX11_dropsPieces 66 = .ok (.getfield 29, 3) := by decide +kernel
theorem dX11_dropsPieces_69 : decode cX11_dropsPieces 69 = .ok (.iload_n 1, 1) := by decide +kernel
theorem dX11_dropsPieces_70 : decode cX11_dropsPieces 70 = .ok (.iaload, 1) := by decide +kernel
theorem dX11_dropsPieces_71 : decode cX11_dropsPieces 71 = .ok (.ifCond .le 23, 3) := by decide +kernel
theorem dX11_dropsPieces_74 : decode cX11_dropsPieces 74 = .ok (.aload_n 0, 1) := by decide +kernel
theorem dX11_dropsPieces_75 : decode cX11_dropsPieces 75 = .ok (.getfield 7, 3) := by decide +kernel
theorem dX11_dropsPieces_78 : decode cX11_dropsPieces 78 = .ok (.iload_n 1, 1) := by decide +kernel
theorem dX11_dropsPieces_79 : decode cX11_dropsPieces 79 = .ok (.iaload, 1) := by decide +kernel
theorem dX11_dropsPieces_80 : decode cX11_dropsPieces 80 = .ok (.iconst 2, 1) := by decide +kernel
theorem dX11_dropsPieces_81 : decode cX11_dropsPieces 81 = .ok (.if_icmp .ne 13, 3) := by decide +kernel
theorem dX11_dropsPieces_84 : decode cX11_dropsPieces 84 = .ok (.aload_n 0, 1) := by decide +kernel
theorem dX11_dropsPieces_85 : decode cX11_dropsPieces 85 = .ok (.aload_n 0, 1) := by decide +kernel
theorem dX11_dropsPieces_86 : decode cX11_dropsPieces 86 = .ok (.getfield 13, 3) := by decide +kernel
theorem dX11_dropsPieces_89 : decode cX11_dropsPieces 89 = .ok (.iload_n 1, 1) := by decide +kernel
theorem dX11_dropsPieces_90 : decode cX11_dropsPieces 90 = .ok (.laload, 1) := by decide +kernel
theorem dX11_dropsPieces_91 : decode cX11_dropsPieces 91 = .ok (.invokevirtual 239, 3) := by decide +kernel
theorem dX11_dropsPieces_94 : decode cX11_dropsPieces 94 = .ok (.iinc 1 1, 3) := by decide +kernel
theorem dX11_dropsPieces_97 : decode cX11_dropsPieces 97 = .ok (.goto (-38), 3) := by decide +kernel
theorem dX11_dropsPieces_100 : decode cX11_dropsPieces 100 = .ok (.iconst 0, 1) := by decide +kernel
theorem dX11_dropsPieces_101 : decode cX11_dropsPieces 101 = .ok (.istore_n 1, 1) := by decide +kernel
theorem dX11_dropsPieces_102 : decode cX11_dropsPieces 102 = .ok (.iload_n 1, 1) := by decide +kernel
theorem dX11_dropsPieces_103 : decode cX11_dropsPieces 103 = .ok (.sipush 20000, 3) := by decide +kernel
theorem dX11_dropsPieces_106 : decode cX11_dropsPieces 106 = .ok (.if_icmp .ge 65, 3) := by decide +kernel
theorem dX11_dropsPieces_109 : decode cX11_dropsPieces 109 = .ok (.aload_n 0, 1) := by decide +kernel
theorem dX11_dropsPieces_110 : decode cX11_dropsPieces 110 = .ok (.getfield 98, 3) := by decide +kernel
theorem dX11_dropsPieces_113 : decode cX11_dropsPieces 113 = .ok (.iload_n 1, 1) := by decide +kernel
theorem dX11_dropsPieces_114 : decode cX11_dropsPieces 114 = .ok (.iaload, 1) := by decide +kernel
theorem dX11_dropsPieces_115 : decode cX11_dropsPieces 115 = .ok (.ifCond .ne 50, 3) := by decide +kernel
theorem dX11_dropsPieces_118 : decode cX11_dropsPieces 118 = .ok (.aload_n 0, 1) := by decide +kernel
theorem dX11_dropsPieces_119 : decode cX11_dropsPieces 119 = .ok (.getfield 83, 3) := by decide +kernel
theorem dX11_dropsPieces_122 : decode cX11_dropsPieces 122 = .ok (.iload_n 1, 1) := by decide +kernel
theorem dX11_dropsPieces_123 : decode cX11_dropsPieces 123 = .ok (.iaload, 1) := by decide +kernel
theorem dX11_dropsPieces_124 : decode cX11_dropsPieces 124 = .ok (.ifCond .le 20, 3) := by decide +kernel
theorem dX11_dropsPieces_127 : decode cX11_dropsPieces 127 = .ok (.aload_n 0, 1) := by decide +kernel
theorem dX11_dropsPieces_128 : decode cX11_dropsPieces 128 = .ok (.getfield 92, 3) := by decide +kernel
theorem dX11_dropsPieces_131 : decode cX11_dropsPieces 131 = .ok (.aload_n 0, 1) := by decide +kernel
theorem dX11_dropsPieces_132 : decode cX11_dropsPieces 132 = .ok (.getfield 83, 3) := by decide +kernel
theorem dX11_dropsPieces_135 : decode cX11_dropsPieces 135 = .ok (.iload_n 1, 1) := by decide +kernel
theorem dX11_dropsPieces_136 : decode cX11_dropsPieces 136 = .ok (.iaload, 1) := by decide +kernel
theorem dX11_dropsPieces_137 : decode cX11_dropsPieces 137 = .ok (.iconst 1, 1) := by decide +kernel
theorem dX11_dropsPieces_138 : decode cX11_dropsPieces 138 = .ok (.isub, 1) := by decide +kernel
theorem dX11_dropsPieces_139 : decode cX11_dropsPieces 139 = .ok (.dup2, 1) := by decide +kernel
theorem dX11_dropsPieces_140 : decode cX11_dropsPieces 140 = .ok (.iaload, 1) := by decide +kernel
theorem dX11_dropsPieces_141 : decode cX11_dropsPieces 141 = .ok (.iconst 1, 1) := by decide +kernel
theorem dX11_dropsPieces_142 : decode cX11_dropsPieces 142 = .ok (.isub, 1) := by decide +kernel
theorem dX11_dropsPieces_143 : decode cX11_dropsPieces 143 = .ok (.iastore, 1) := by decide +kernel
theorem dX11_dropsPieces_144 : decode cX11_dropsPieces 144 = .ok (.aload_n 0, 1) := by decide +kernel
theorem dX11_dropsPieces_145 : decode cX11_dropsPieces 145 = .ok (.getfield 83, 3) := by decide +kernel
theorem dX11_dropsPieces_148 : decode cX11_dropsPieces 148 = .ok (.iload_n 1, 1) := by decide +kernel
theorem dX11_dropsPieces_149 : decode cX11_dropsPieces 149 = .ok (.iconst 0, 1) := by decide +kernel
theorem dX11_dropsPieces_150 : decode cX11_dropsPieces 150 = .ok (.iastore, 1) := by decide +kernel
theorem dX11_dropsPieces_151 : decode cX11_dropsPieces 151 = .ok (.aload_n 0, 1) := by decide +kernel
theorem dX11_dropsPieces_152 : decode cX11_dropsPieces 152 = .ok (.getfield 86, 3) := by decide +kernel
theorem dX11_dropsPieces_155 : decode cX11_dropsPieces 155 = .ok (.iload_n 1, 1) := by decide +kernel
theorem dX11_dropsPieces_156 : decode cX11_dropsPieces 156 = .ok (.iconst 0, 1) := by decide +kernel
theorem dX11_dropsPieces_157 : decode cX11_dropsPieces 157 = .ok (.iastore, 1) := by decide +kernel
theorem dX11_dropsPieces_158 : decode cX11_dropsPieces 158 = .ok (.aload_n 0, 1) := by decide +kernel
theorem dX11_dropsPieces_159 : decode cX11_dropsPieces 159 = .ok (.getfield 89, 3) := by decide +kernel
theorem dX11_dropsPieces_162 : decode cX11_dropsPieces 162 = .ok (.iload_n 1, 1) := by decide +kernel
theorem dX11_dropsPieces_163 : decode cX11_dropsPieces 163 = .ok (.iconst 0, 1) := by decide +kernel
theorem dX11_dropsPieces_164 : decode cX11_dropsPieces 164 = .ok (.iastore, 1) := by decide +kernel
theorem dX11_dropsPieces_165 : decode cX11_dropsPieces 165 = .ok (.iinc 1 1, 3) := by decide +kernel
theorem dX11_dropsPieces_168 : decode cX11_dropsPieces 168 = .ok (.goto (-66), 3) := by decide +kernel
theorem dX11_dropsPieces_171 : decode cX11_dropsPieces 171 = .ok (.return_, 1) := by decide +kernel
theorem dX11_thin_0 : decode cX11_thin 0 = .ok (.aload_n 0, 1) := by decide +kernel
theorem dX11_thin_1 : decode cX11_thin 1 = .ok (.iconst 0, 1) := by decide +kernel
theorem dX11_thin_2 : decode cX11_thin 2 = .ok (.putfield 101, 3) := by decide +kernel
theorem dX11_thin_5 : decode cX11_thin 5 = .ok (.iconst 0, 1) := by decide +kernel
theorem dX11_thin_6 : decode cX11_thin 6 = .ok (.istore_n 1, 1) := by decide +kernel
theorem dX11_thin_7 : decode cX11_thin 7 = .ok (.iconst 0, 1) := by decide +kernel
theorem dX11_thin_8 : decode cX11_thin 8 = .ok (.istore_n 2, 1) := by decide +kernel
theorem dX11_thin_9 : decode cX11_thin 9 = .ok (.iload_n 2, 1) := by decide +kernel
theorem dX11_thin_10 : decode cX11_thin 10 = .ok (.aload_n 0, 1) := by decide +kernel
theorem dX11_thin_11 : decode cX11_thin 11 = .ok (.getfield 155, 3) := by decide +kernel
theorem dX11_thin_14 : decode cX11_thin 14 = .ok (.if_icmp .ge 95, 3) := by decide +kernel
theorem dX11_thin_17 : decode cX11_thin 17 = .ok (.aload_n 0, 1) := by decide +kernel
theorem dX11_thin_18 : decode cX11_thin 18 = .ok (.getfield 132, 3) := by decide +kernel
theorem dX11_thin_21 : decode cX11_thin 21 = .ok (.aload_n 0, 1) := by decide +kernel
theorem dX11_thin_22 : decode cX11_thin 22 = .ok (.getfield 47, 3) := by decide +kernel
theorem dX11_thin_25 : decode cX11_thin 25 = .ok (.iload_n 2, 1) := by decide +kernel
theorem dX11_thin_26 : decode cX11_thin 26 = .ok (.iaload, 1) := by decide +kernel
theorem dX11_thin_27 : decode cX11_thin 27 = .ok (.isub, 1) := by decide +kernel
theorem dX11_thin_28 : decode cX11_thin 28 = .ok (.istore_n 3, 1) := by decide +kernel
theorem dX11_thin_29 : decode cX11_thin 29 = .ok (.iload_n 3, 1) := by decide +kernel
theorem dX11_thin_30 : decode cX11_thin 30 = .ok (.bipush 24, 2) := by decide +kernel
theorem dX11_thin_32 : decode cX11_thin 32 = .ok (.if_icmp .lt 11, 3) := by decide +kernel
theorem dX11_thin_35 : decode cX11_thin 35 = .ok (.aload_n 0, 1) := by decide +kernel
theorem dX11_thin_36 : decode cX11_thin 36 = .ok (.iload_n 2, 1) := by decide +kernel
theorem dX11_thin_37 : decode cX11_thin 37 = .ok (.invokevirtual 243, 3) := by decide +kernel
theorem dX11_thin_40 : decode cX11_thin 40 = .ok (.ifCond .ne 24, 3) := by decide +kernel
theorem dX11_thin_43 : decode cX11_thin 43 = .ok (.iload_n 3, 1) := by decide +kernel
theorem dX11_thin_44 : decode cX11_thin 44 = .ok (.sipush 240, 3) := by decide +kernel
theorem dX11_thin_47 : decode cX11_thin 47 = .ok (.if_icmp .lt 21, 3) := by decide +kernel
theorem dX11_thin_50 : decode cX11_thin 50 = .ok (.aload_n 0, 1) := by decide +kernel
theorem dX11_thin_51 : decode cX11_thin 51 = .ok (.aload_n 0, 1) := by decide +kernel
theorem dX11_thin_52 : decode cX11_thin 52 = .ok (.getfield 44, 3) := by decide +kernel
theorem dX11_thin_55 : decode cX11_thin 55 = .ok (.iload_n 2, 1) := by decide +kernel
theorem dX11_thin_56 : decode cX11_thin 56 = .ok (.iaload, 1) := by decide +kernel
theorem dX11_thin_57 : decode cX11_thin 57 = .ok (.invokevirtual 184, 3) := by decide +kernel
theorem dX11_thin_60 : decode cX11_thin 60 = .ok (.iload_n 2, 1) := by decide +kernel
theorem dX11_thin_61 : decode cX11_thin 61 = .ok (.if_icmp .eq 7, 3) := by decide +kernel
theorem dX11_thin_64 : decode cX11_thin 64 = .ok (.iconst 1, 1) := by decide +kernel
theorem dX11_thin_65 : decode cX11_thin 65 = .ok (.goto 4, 3) := by decide +kernel
theorem dX11_thin_68 : decode cX11_thin 68 = .ok (.iconst 0, 1) := by decide +kernel
theorem dX11_thin_69 : decode cX11_thin 69 = .ok (.istore 4, 2) := by decide +kernel
theorem dX11_thin_71 : decode cX11_thin 71 = .ok (.aload_n 0, 1) := by decide +kernel
theorem dX11_thin_72 : decode cX11_thin 72 = .ok (.getfield 59, 3) := by decide +kernel
theorem dX11_thin_75 : decode cX11_thin 75 = .ok (.iload_n 2, 1) := by decide +kernel
theorem dX11_thin_76 : decode cX11_thin 76 = .ok (.iaload, 1) := by decide +kernel
theorem dX11_thin_77 : decode cX11_thin 77 = .ok (.ifCond .ne 26, 3) := by decide +kernel
theorem dX11_thin_80 : decode cX11_thin 80 = .ok (.aload_n 0, 1) := by decide +kernel
theorem dX11_thin_81 : decode cX11_thin 81 = .ok (.iload_n 2, 1) := by decide +kernel
theorem dX11_thin_82 : decode cX11_thin 82 = .ok (.invokevirtual 246, 3) := by decide +kernel
theorem dX11_thin_85 : decode cX11_thin 85 = .ok (.ifCond .ne 18, 3) := by decide +kernel
theorem dX11_thin_88 : decode cX11_thin 88 = .ok (.iload 4, 2) := by decide +kernel
theorem dX11_thin_90 : decode cX11_thin 90 = .ok (.ifCond .eq 13, 3) := by decide +kernel
theorem dX11_thin_93 : decode cX11_thin 93 = .ok (.aload_n 0, 1) := by decide +kernel
theorem dX11_thin_94 : decode cX11_thin 94 = .ok (.getfield 59, 3) := by decide +kernel
theorem dX11_thin_97 : decode cX11_thin 97 = .ok (.iload_n 2, 1) := by decide +kernel
theorem dX11_thin_98 : decode cX11_thin 98 = .ok (.iconst 1, 1) := by decide +kernel
theorem dX11_thin_99 : decode cX11_thin 99 = .ok (.iastore, 1) := by decide +kernel
theorem dX11_thin_100 : decode cX11_thin 100 = .ok (.iinc 1 1, 3) := by decide +kernel
theorem dX11_thin_103 : decode cX11_thin 103 = .ok (.iinc 2 1, 3) := by decide +kernel
theorem dX11_thin_106 : decode cX11_thin 106 = .ok (.goto (-97), 3) := by decide +kernel
theorem dX11_thin_109 : decode cX11_thin 109 = .ok (.aload_n 0, 1) := by decide +kernel
theorem dX11_thin_110 : decode cX11_thin 110 = .ok (.invokevirtual 249, 3) := by decide +kernel
theorem dX11_thin_113 : decode cX11_thin 113 = .ok (.iload_n 1, 1) := by decide +kernel
theorem dX11_thin_114 : decode cX11_thin 114 = .ok (.ireturn, 1) := by decide +kernel
theorem dX11_asOfTime_0 : decode cX11_asOfTime 0 = .ok (.aload_n 0, 1) := by decide +kernel
theorem dX11_asOfTime_1 : decode cX11_asOfTime 1 = .ok (.getfield 155, 3) := by decide +kernel
theorem dX11_asOfTime_4 : decode cX11_asOfTime 4 = .ok (.iconst 1, 1) := by decide +kernel
theorem dX11_asOfTime_5 : decode cX11_asOfTime 5 = .ok (.isub, 1) := by decide +kernel
theorem dX11_asOfTime_6 : decode cX11_asOfTime 6 = .ok (.istore_n 3, 1) := by decide +kernel
theorem dX11_asOfTime_7 : decode cX11_asOfTime 7 = .ok (.iload_n 3, 1) := by decide +kernel
theorem dX11_asOfTime_8 : decode cX11_asOfTime 8 = .ok (.ifCond .lt 40, 3) := by decide +kernel
theorem dX11_asOfTime_11 : decode cX11_asOfTime 11 = .ok (.aload_n 0, 1) := by decide +kernel
theorem dX11_asOfTime_12 : decode cX11_asOfTime 12 = .ok (.getfield 44, 3) := by decide +kernel
theorem dX11_asOfTime_15 : decode cX11_asOfTime 15 = .ok (.iload_n 3, 1) := by decide +kernel
theorem dX11_asOfTime_16 : decode cX11_asOfTime 16 = .ok (.iaload, 1) := by decide +kernel
theorem dX11_asOfTime_17 : decode cX11_asOfTime 17 = .ok (.iload_n 1, 1) := by decide +kernel
theorem dX11_asOfTime_18 : decode cX11_asOfTime 18 = .ok (.if_icmp .ne 24, 3) := by decide +kernel
theorem dX11_asOfTime_21 : decode cX11_asOfTime 21 = .ok (.aload_n 0, 1) := by decide +kernel
theorem dX11_asOfTime_22 : decode cX11_asOfTime 22 = .ok (.getfield 59, 3) := by decide +kernel
theorem dX11_asOfTime_25 : decode cX11_asOfTime 25 = .ok (.iload_n 3, 1) := by decide +kernel
theorem dX11_asOfTime_26 : decode cX11_asOfTime 26 = .ok (.iaload, 1) := by decide +kernel
theorem dX11_asOfTime_27 : decode cX11_asOfTime 27 = .ok (.ifCond .ne 15, 3) := by decide +kernel
theorem dX11_asOfTime_30 : decode cX11_asOfTime 30 = .ok (.aload_n 0, 1) := by decide +kernel
theorem dX11_asOfTime_31 : decode cX11_asOfTime 31 = .ok (.getfield 47, 3) := by decide +kernel
theorem dX11_asOfTime_34 : decode cX11_asOfTime 34 = .ok (.iload_n 3, 1) := by decide +kernel
theorem dX11_asOfTime_35 : decode cX11_asOfTime 35 = .ok (.iaload, 1) := by decide +kernel
theorem dX11_asOfTime_36 : decode cX11_asOfTime 36 = .ok (.iload_n 2, 1) := by decide +kernel
theorem dX11_asOfTime_37 : decode cX11_asOfTime 37 = .ok (.if_icmp .gt 5, 3) := by decide +kernel
theorem dX11_asOfTime_40 : decode cX11_asOfTime 40 = .ok (.iload_n 3, 1) := by decide +kernel
theorem dX11_asOfTime_41 : decode cX11_asOfTime 41 = .ok (.ireturn, 1) := by decide +kernel
theorem dX11_asOfTime_42 : decode cX11_asOfTime 42 = .ok (.iinc 3 (-1), 3) := by decide +kernel
theorem dX11_asOfTime_45 : decode cX11_asOfTime 45 = .ok (.goto (-38), 3) := by decide +kernel
theorem dX11_asOfTime_48 : decode cX11_asOfTime 48 = .ok (.iconst (-1), 1) := by decide +kernel
theorem dX11_asOfTime_49 : decode cX11_asOfTime 49 = .ok (.ireturn, 1) := by decide +kernel
theorem dX11_restores_0 : decode cX11_restores 0 = .ok (.aload_n 0, 1) := by decide +kernel
theorem dX11_restores_1 : decode cX11_restores 1 = .ok (.iload_n 1, 1) := by decide +kernel
theorem dX11_restores_2 : decode cX11_restores 2 = .ok (.iload_n 2, 1) := by decide +kernel
theorem dX11_restores_3 : decode cX11_restores 3 = .ok (.invokevirtual 252, 3) := by decide +kernel
theorem dX11_restores_6 : decode cX11_restores 6 = .ok (.istore_n 3, 1) := by decide +kernel
theorem dX11_restores_7 : decode cX11_restores 7 = .ok (.aload_n 0, 1) := by decide +kernel
theorem dX11_restores_8 : decode cX11_restores 8 = .ok (.iload_n 1, 1) := by decide +kernel
theorem dX11_restores_9 : decode cX11_restores 9 = .ok (.invokevirtual 184, 3) := by decide +kernel
theorem dX11_restores_12 : decode cX11_restores 12 = .ok (.istore 4, 2) := by decide +kernel
theorem dX11_restores_14 : decode cX11_restores 14 = .ok (.iload_n 3, 1) := by decide +kernel
theorem dX11_restores_15 : decode cX11_restores 15 = .ok (.iconst (-1), 1) := by decide +kernel
theorem dX11_restores_16 : decode cX11_restores 16 = .ok (.if_icmp .eq 47, 3) := by decide +kernel
theorem dX11_restores_19 : decode cX11_restores 19 = .ok (.aload_n 0, 1) := by decide +kernel
theorem dX11_restores_20 : decode cX11_restores 20 = .ok (.getfield 56, 3) := by decide +kernel
theorem dX11_restores_23 : decode cX11_restores 23 = .ok (.iload_n 3, 1) := by decide +kernel
theorem dX11_restores_24 : decode cX11_restores 24 = .ok (.laload, 1) := by decide +kernel
theorem dX11_restores_25 : decode cX11_restores 25 = .ok (.aload_n 0, 1) := by decide +kernel
theorem dX11_restores_26 : decode cX11_restores 26 = .ok (.getfield 56, 3) := by decide +kernel
theorem dX11_restores_29 : decode cX11_restores 29 = .ok (.iload 4, 2) := by decide +kernel
theorem dX11_restores_31 : decode cX11_restores 31 = .ok (.laload, 1) := by decide +kernel
theorem dX11_restores_32 : decode cX11_restores 32 = .ok (.lcmp, 1) := by decide +kernel
theorem dX11_restores_33 : decode cX11_restores 33 = .ok (.ifCond .ne 34, 3) := by decide +kernel
theorem dX11_restores_36 : decode cX11_restores 36 = .ok (.aload_n 0, 1) := by decide +kernel
theorem dX11_restores_37 : decode cX11_restores 37 = .ok (.getfield 56, 3) := by decide +kernel
theorem dX11_restores_40 : decode cX11_restores 40 = .ok (.iload_n 3, 1) := by decide +kernel
theorem dX11_restores_41 : decode cX11_restores 41 = .ok (.laload, 1) := by decide +kernel
theorem dX11_restores_42 : decode cX11_restores 42 = .ok (.lconst 0, 1) := by decide +kernel
theorem dX11_restores_43 : decode cX11_restores 43 = .ok (.lcmp, 1) := by decide +kernel
theorem dX11_restores_44 : decode cX11_restores 44 = .ok (.ifCond .eq 19, 3) := by decide +kernel
theorem dX11_restores_47 : decode cX11_restores 47 = .ok (.aload_n 0, 1) := by decide +kernel
theorem dX11_restores_48 : decode cX11_restores 48 = .ok (.getfield 53, 3) := by decide +kernel
theorem dX11_restores_51 : decode cX11_restores 51 = .ok (.iload_n 3, 1) := by decide +kernel
theorem dX11_restores_52 : decode cX11_restores 52 = .ok (.iaload, 1) := by decide +kernel
theorem dX11_restores_53 : decode cX11_restores 53 = .ok (.aload_n 0, 1) := by decide +kernel
theorem dX11_restores_54 : decode cX11_restores 54 = .ok (.getfield 53, 3) := by decide +kernel
theorem dX11_restores_57 : decode cX11_restores 57 = .ok (.iload 4, 2) := by decide +kernel
theorem dX11_restores_59 : decode cX11_restores 59 = .ok (.iaload, 1) := by decide +kernel
theorem dX11_restores_60 : decode cX11_restores 60 = .ok (.if_icmp .ne 7, 3) := by decide +kernel
theorem dX11_restores_63 : decode cX11_restores 63 = .ok (.iconst 1, 1) := by decide +kernel
theorem dX11_restores_64 : decode cX11_restores 64 = .ok (.goto 4, 3) := by decide +kernel
theorem dX11_restores_67 : decode cX11_restores 67 = .ok (.iconst 0, 1) := by decide +kernel
theorem dX11_restores_68 : decode cX11_restores 68 = .ok (.istore 5, 2) := by decide +kernel
theorem dX11_restores_70 : decode cX11_restores 70 = .ok (.iload 5, 2) := by decide +kernel
theorem dX11_restores_72 : decode cX11_restores 72 = .ok (.ifCond .eq 7, 3) := by decide +kernel
theorem dX11_restores_75 : decode cX11_restores 75 = .ok (.iconst (-1), 1) := by decide +kernel
theorem dX11_restores_76 : decode cX11_restores 76 = .ok (.goto 21, 3) := by decide +kernel
theorem dX11_restores_79 : decode cX11_restores 79 = .ok (.aload_n 0, 1) := by decide +kernel
theorem dX11_restores_80 : decode cX11_restores 80 = .ok (.iload_n 1, 1) := by decide +kernel
theorem dX11_restores_81 : decode cX11_restores 81 = .ok (.iconst (-1), 1) := by decide +kernel
theorem dX11_restores_82 : decode cX11_restores 82 = .ok (.aload_n 0, 1) := by decide +kernel
theorem dX11_restores_83 : decode cX11_restores 83 = .ok (.getfield 56, 3) := by decide +kernel
theorem dX11_restores_86 : decode cX11_restores 86 = .ok (.iload_n 3, 1) := by decide +kernel
theorem dX11_restores_87 : decode cX11_restores 87 = .ok (.laload, 1) := by decide +kernel
theorem dX11_restores_88 : decode cX11_restores 88 = .ok (.aload_n 0, 1) := by decide +kernel
theorem dX11_restores_89 : decode cX11_restores 89 = .ok (.getfield 53, 3) := by decide +kernel
theorem dX11_restores_92 : decode cX11_restores 92 = .ok (.iload_n 3, 1) := by decide +kernel
theorem dX11_restores_93 : decode cX11_restores 93 = .ok (.iaload, 1) := by decide +kernel
theorem dX11_restores_94 : decode cX11_restores 94 = .ok (.invokevirtual 176, 3) := by decide +kernel
theorem dX11_restores_97 : decode cX11_restores 97 = .ok (.ireturn, 1) := by decide +kernel
theorem dX11_restore_0 : decode cX11_restore 0 = .ok (.aload_n 0, 1) := by decide +kernel
theorem dX11_restore_1 : decode cX11_restore 1 = .ok (.iload_n 1, 1) := by decide +kernel
theorem dX11_restore_2 : decode cX11_restore 2 = .ok (.invokestatic 139, 3) := by decide +kernel
theorem dX11_restore_5 : decode cX11_restore 5 = .ok (.ifCond .ne 7, 3) := by decide +kernel
theorem dX11_restore_8 : decode cX11_restore 8 = .ok (.iconst 1, 1) := by decide +kernel
theorem dX11_restore_9 : decode cX11_restore 9 = .ok (.goto 33, 3) := by decide +kernel
theorem dX11_restore_12 : decode cX11_restore 12 = .ok (.iload_n 2, 1) := by decide +kernel
theorem dX11_restore_13 : decode cX11_restore 13 = .ok (.iconst 0, 1) := by decide +kernel
theorem dX11_restore_14 : decode cX11_restore 14 = .ok (.aload_n 0, 1) := by decide +kernel
theorem dX11_restore_15 : decode cX11_restore 15 = .ok (.getfield 132, 3) := by decide +kernel
theorem dX11_restore_18 : decode cX11_restore 18 = .ok (.invokestatic 105, 3) := by decide +kernel
theorem dX11_restore_21 : decode cX11_restore 21 = .ok (.ifCond .ne 7, 3) := by decide +kernel
theorem dX11_restore_24 : decode cX11_restore 24 = .ok (.iconst 2, 1) := by decide +kernel
theorem dX11_restore_25 : decode cX11_restore 25 = .ok (.goto 17, 3) := by decide +kernel
theorem dX11_restore_28 : decode cX11_restore 28 = .ok (.aload_n 0, 1) := by decide +kernel
theorem dX11_restore_29 : decode cX11_restore 29 = .ok (.getfield 155, 3) := by decide +kernel
theorem dX11_restore_32 : decode cX11_restore 32 = .ok (.bipush 100, 2) := by decide +kernel
theorem dX11_restore_34 : decode cX11_restore 34 = .ok (.if_icmp .le 7, 3) := by decide +kernel
theorem dX11_restore_37 : decode cX11_restore 37 = .ok (.iconst 3, 1) := by decide +kernel
theorem dX11_restore_38 : decode cX11_restore 38 = .ok (.goto 4, 3) := by decide +kernel
theorem dX11_restore_41 : decode cX11_restore 41 = .ok (.iconst 0, 1) := by decide +kernel
theorem dX11_restore_42 : decode cX11_restore 42 = .ok (.putfield 101, 3) := by decide +kernel
theorem dX11_restore_45 : decode cX11_restore 45 = .ok (.aload_n 0, 1) := by decide +kernel
theorem dX11_restore_46 : decode cX11_restore 46 = .ok (.getfield 101, 3) := by decide +kernel
theorem dX11_restore_49 : decode cX11_restore 49 = .ok (.ifCond .ne 12, 3) := by decide +kernel
theorem dX11_restore_52 : decode cX11_restore 52 = .ok (.aload_n 0, 1) := by decide +kernel
theorem dX11_restore_53 : decode cX11_restore 53 = .ok (.iload_n 1, 1) := by decide +kernel
theorem dX11_restore_54 : decode cX11_restore 54 = .ok (.iload_n 2, 1) := by decide +kernel
theorem dX11_restore_55 : decode cX11_restore 55 = .ok (.invokevirtual 255, 3) := by decide +kernel
theorem dX11_restore_58 : decode cX11_restore 58 = .ok (.goto 4, 3) := by decide +kernel
theorem dX11_restore_61 : decode cX11_restore 61 = .ok (.iconst 0, 1) := by decide +kernel
theorem dX11_restore_62 : decode cX11_restore 62 = .ok (.ireturn, 1) := by decide +kernel
theorem dX11_restoreFolder_0 : decode cX11_restoreFolder 0 = .ok (.aload_n 0, 1) := by decide +kernel
theorem dX11_restoreFolder_1 : decode cX11_restoreFolder 1 = .ok (.iload_n 1, 1) := by decide +kernel
theorem dX11_restoreFolder_2 : decode cX11_restoreFolder 2 = .ok (.iconst 0, 1) := by decide +kernel
theorem dX11_restoreFolder_3 : decode cX11_restoreFolder 3 = .ok (.iconst 3, 1) := by decide +kernel
theorem dX11_restoreFolder_4 : decode cX11_restoreFolder 4 = .ok (.invokestatic 105, 3) := by decide +kernel
theorem dX11_restoreFolder_7 : decode cX11_restoreFolder 7 = .ok (.ifCond .ne 7, 3) := by decide +kernel
theorem dX11_restoreFolder_10 : decode cX11_restoreFolder 10 = .ok (.iconst 1, 1) := by decide +kernel
theorem dX11_restoreFolder_11 : decode cX11_restoreFolder 11 = .ok (.goto 33, 3) := by decide +kernel
theorem dX11_restoreFolder_14 : decode cX11_restoreFolder 14 = .ok (.iload_n 2, 1) := by decide +kernel
theorem dX11_restoreFolder_15 : decode cX11_restoreFolder 15 = .ok (.iconst 0, 1) := by decide +kernel
theorem dX11_restoreFolder_16 : decode cX11_restoreFolder 16 = .ok (.aload_n 0, 1) := by decide +kernel
theorem dX11_restoreFolder_17 : decode cX11_restoreFolder 17 = .ok (.getfield 132, 3) := by decide +kernel
theorem dX11_restoreFolder_20 : decode cX11_restoreFolder 20 = .ok (.invokestatic 105, 3) := by decide +kernel
theorem dX11_restoreFolder_23 : decode cX11_restoreFolder 23 = .ok (.ifCond .ne 7, 3) := by decide +kernel
theorem dX11_restoreFolder_26 : decode cX11_restoreFolder 26 = .ok (.iconst 2, 1) := by decide +kernel
theorem dX11_restoreFolder_27 : decode cX11_restoreFolder 27 = .ok (.goto 17, 3) := by decide +kernel
theorem dX11_restoreFolder_30 : decode cX11_restoreFolder 30 = .ok (.aload_n 0, 1) := by decide +kernel
theorem dX11_restoreFolder_31 : decode cX11_restoreFolder 31 = .ok (.getfield 155, 3) := by decide +kernel
theorem dX11_restoreFolder_34 : decode cX11_restoreFolder 34 = .ok (.bipush 100, 2) := by decide +kernel
theorem dX11_restoreFolder_36 : decode cX11_restoreFolder 36 = .ok (.if_icmp .le 7, 3) := by decide +kernel
theorem dX11_restoreFolder_39 : decode cX11_restoreFolder 39 = .ok (.iconst 3, 1) := by decide +kernel
theorem dX11_restoreFolder_40 : decode cX11_restoreFolder 40 = .ok (.goto 4, 3) := by decide +kernel
theorem dX11_restoreFolder_43 : decode cX11_restoreFolder 43 = .ok (.iconst 0, 1) := by decide +kernel
theorem dX11_restoreFolder_44 : decode cX11_restoreFolder 44 = .ok (.putfield 101, 3) := by decide +kernel
theorem dX11_restoreFolder_47 : decode cX11_restoreFolder 47 = .ok (.iconst 0, 1) := by decide +kernel
theorem dX11_restoreFolder_48 : decode cX11_restoreFolder 48 = .ok (.istore_n 3, 1) := by decide +kernel
theorem dX11_restoreFolder_49 : decode cX11_restoreFolder 49 = .ok (.iconst 0, 1) := by decide +kernel
theorem dX11_restoreFolder_50 : decode cX11_restoreFolder 50 = .ok (.istore 4, 2) := by decide +kernel
theorem dX11_restoreFolder_52 : decode cX11_restoreFolder 52 = .ok (.iload 4, 2) := by decide +kernel
theorem dX11_restoreFolder_54 : decode cX11_restoreFolder 54 = .ok (.bipush 16, 2) := by decide +kernel
theorem dX11_restoreFolder_56 : decode cX11_restoreFolder 56 = .ok (.if_icmp .ge 104, 3) := by decide +kernel
theorem dX11_restoreFolder_59 : decode cX11_restoreFolder 59 = .ok (.aload_n 0, 1) := by decide +kernel
theorem dX11_restoreFolder_60 : decode cX11_restoreFolder 60 = .ok (.getfield 101, 3) := by decide +kernel
theorem dX11_restoreFolder_63 : decode cX11_restoreFolder 63 = .ok (.ifCond .ne 97, 3) := by decide +kernel
theorem dX11_restoreFolder_66 : decode cX11_restoreFolder 66 = .ok (.aload_n 0, 1) := by decide +kernel
theorem dX11_restoreFolder_67 : decode cX11_restoreFolder 67 = .ok (.iload 4, 2) := by decide +kernel
theorem dX11_restoreFolder_69 : decode cX11_restoreFolder 69 = .ok (.iload_n 2, 1) := by decide +kernel
theorem dX11_restoreFolder_70 : decode cX11_restoreFolder 70 = .ok (.invokevirtual 252, 3) := by decide +kernel
theorem dX11_restoreFolder_73 : decode cX11_restoreFolder 73 = .ok (.istore 5, 2) := by decide +kernel
theorem dX11_restoreFolder_75 : decode cX11_restoreFolder 75 = .ok (.aload_n 0, 1) := by decide +kernel
theorem dX11_restoreFolder_76 : decode cX11_restoreFolder 76 = .ok (.iload 4, 2) := by decide +kernel
theorem dX11_restoreFolder_78 : decode cX11_restoreFolder 78 = .ok (.invokevirtual 184, 3) := by decide +kernel
theorem dX11_restoreFolder_81 : decode cX11_restoreFolder 81 = .ok (.istore 6, 2) := by decide +kernel
theorem dX11_restoreFolder_83 : decode cX11_restoreFolder 83 = .ok (.aload_n 0, 1) := by decide +kernel
theorem dX11_restoreFolder_84 : decode cX11_restoreFolder 84 = .ok (.iload 5, 2) := by decide +kernel
theorem dX11_restoreFolder_86 : decode cX11_restoreFolder 86 = .ok (.invokevirtual 158, 3) := by decide +kernel
theorem dX11_restoreFolder_89 : decode cX11_restoreFolder 89 = .ok (.ifCond .eq 14, 3) := by decide +kernel
theorem dX11_restoreFolder_92 : decode cX11_restoreFolder 92 = .ok (.aload_n 0, 1) := by decide +kernel
theorem dX11_restoreFolder_93 : decode cX11_restoreFolder 93 = .ok (.getfield 53, 3) := by decide +kernel
theorem dX11_restoreFolder_96 : decode cX11_restoreFolder 96 = .ok (.iload 5, 2) := by decide +kernel
theorem dX11_restoreFolder_98 : decode cX11_restoreFolder 98 = .ok (.iaload, 1) := by decide +kernel
theorem dX11_restoreFolder_99 : decode cX11_restoreFolder 99 = .ok (.iload_n 1, 1) := by decide +kernel
theorem dX11_restoreFolder_100 : decode cX11_restoreFolder 100 = .ok (.if_icmp .eq 23, 3) := by decide +kernel
theorem dX11_restoreFolder_103 : decode cX11_restoreFolder 103 = .ok (.aload_n 0, 1) := by decide +kernel
theorem dX11_restoreFolder_104 : decode cX11_restoreFolder 104 = .ok (.iload 6, 2) := by decide +kernel
theorem dX11_restoreFolder_106 : decode cX11_restoreFolder 106 = .ok (.invokevirtual 158, 3) := by decide +kernel
theorem dX11_restoreFolder_109 : decode cX11_restoreFolder 109 = .ok (.ifCond .eq 18, 3) := by decide +kernel
theorem dX11_restoreFolder_112 : decode cX11_restoreFolder 112 = .ok (.aload_n 0, 1) := by decide +kernel
theorem dX11_restoreFolder_113 : decode cX11_restoreFolder 113 = .ok (.getfield 53, 3) := by decide +kernel
theorem dX11_restoreFolder_116 : decode cX11_restoreFolder 116 = .ok (.iload 6, 2) := by decide +kernel
theorem dX11_restoreFolder_118 : decode cX11_restoreFolder 118 = .ok (.iaload, 1) := by decide +kernel
theorem dX11_restoreFolder_119 : decode cX11_restoreFolder 119 = .ok (.iload_n 1, 1) := by decide +kernel
theorem dX11_restoreFolder_120 : decode cX11_restoreFolder 120 = .ok (.if_icmp .ne 7, 3) := by decide +kernel
theorem dX11_restoreFolder_123 : decode cX11_restoreFolder 123 = .ok (.iconst 1, 1) := by decide +kernel
theorem dX11_restoreFolder_124 : decode cX11_restoreFolder 124 = .ok (.goto 4, 3) := by decide +kernel
theorem dX11_restoreFolder_127 : decode cX11_restoreFolder 127 = .ok (.iconst 0, 1) := by decide +kernel
theorem dX11_restoreFolder_128 : decode cX11_restoreFolder 128 = .ok (.istore 7, 2) := by decide +kernel
theorem dX11_restoreFolder_130 : decode cX11_restoreFolder 130 = .ok (.iload_n 3, 1) := by decide +kernel
theorem dX11_restoreFolder_131 : decode cX11_restoreFolder 131 = .ok (.iload 7, 2) := by decide +kernel
theorem dX11_restoreFolder_133 : decode cX11_restoreFolder 133 = .ok (.ifCond .eq 18, 3) := by decide +kernel
theorem dX11_restoreFolder_136 : decode cX11_restoreFolder 136 = .ok (.aload_n 0, 1) := by decide +kernel
theorem dX11_restoreFolder_137 : decode cX11_restoreFolder 137 = .ok (.iload 4, 2) := by decide +kernel
theorem dX11_restoreFolder_139 : decode cX11_restoreFolder 139 = .ok (.iload_n 2, 1) := by decide +kernel
theorem dX11_restoreFolder_140 : decode cX11_restoreFolder 140 = .ok (.invokevirtual 255, 3) := by decide +kernel
theorem dX11_restoreFolder_143 : decode cX11_restoreFolder 143 = .ok (.iconst (-1), 1) := by decide +kernel
theorem dX11_restoreFolder_144 : decode cX11_restoreFolder 144 = .ok (.if_icmp .eq 7, 3) := by decide +kernel
theorem dX11_restoreFolder_147 : decode cX11_restoreFolder 147 = .ok (.iconst 1, 1) := by decide +kernel
theorem dX11_restoreFolder_148 : decode cX11_restoreFolder 148 = .ok (.goto 4, 3) := by decide +kernel
theorem dX11_restoreFolder_151 : decode cX11_restoreFolder 151 = .ok (.iconst 0, 1) := by decide +kernel
theorem dX11_restoreFolder_152 : decode cX11_restoreFolder 152 = .ok (.iadd, 1) := by decide +kernel
theorem dX11_restoreFolder_153 : decode cX11_restoreFolder 153 = .ok (.istore_n 3, 1) := by decide +kernel
theorem dX11_restoreFolder_154 : decode cX11_restoreFolder 154 = .ok (.iinc 4 1, 3) := by decide +kernel
theorem dX11_restoreFolder_157 : decode cX11_restoreFolder 157 = .ok (.goto (-105), 3) := by decide +kernel
theorem dX11_restoreFolder_160 : decode cX11_restoreFolder 160 = .ok (.iload_n 3, 1) := by decide +kernel
theorem dX11_restoreFolder_161 : decode cX11_restoreFolder 161 = .ok (.ireturn, 1) := by decide +kernel
theorem dX11_damage_0 : decode cX11_damage 0 = .ok (.aload_n 0, 1) := by decide +kernel
theorem dX11_damage_1 : decode cX11_damage 1 = .ok (.iload_n 1, 1) := by decide +kernel
theorem dX11_damage_2 : decode cX11_damage 2 = .ok (.iconst 0, 1) := by decide +kernel
theorem dX11_damage_3 : decode cX11_damage 3 = .ok (.aload_n 0, 1) := by decide +kernel
theorem dX11_damage_4 : decode cX11_damage 4 = .ok (.getfield 196, 3) := by decide +kernel
theorem dX11_damage_7 : decode cX11_damage 7 = .ok (.iconst 1, 1) := by decide +kernel
theorem dX11_damage_8 : decode cX11_damage 8 = .ok (.isub, 1) := by decide +kernel
theorem dX11_damage_9 : decode cX11_damage 9 = .ok (.invokestatic 105, 3) := by decide +kernel
theorem dX11_damage_12 : decode cX11_damage 12 = .ok (.ifCond .eq 7, 3) := by decide +kernel
theorem dX11_damage_15 : decode cX11_damage 15 = .ok (.iconst 0, 1) := by decide +kernel
theorem dX11_damage_16 : decode cX11_damage 16 = .ok (.goto 4, 3) := by decide +kernel
theorem dX11_damage_19 : decode cX11_damage 19 = .ok (.iconst 1, 1) := by decide +kernel
theorem dX11_damage_20 : decode cX11_damage 20 = .ok (.putfield 101, 3) := by decide +kernel
theorem dX11_damage_23 : decode cX11_damage 23 = .ok (.iconst 0, 1) := by decide +kernel
theorem dX11_damage_24 : decode cX11_damage 24 = .ok (.istore_n 2, 1) := by decide +kernel
theorem dX11_damage_25 : decode cX11_damage 25 = .ok (.iconst 0, 1) := by decide +kernel
theorem dX11_damage_26 : decode cX11_damage 26 = .ok (.istore_n 3, 1) := by decide +kernel
theorem dX11_damage_27 : decode cX11_damage 27 = .ok (.iload_n 3, 1) := by decide +kernel
theorem dX11_damage_28 : decode cX11_damage 28 = .ok (.sipush 20000, 3) := by decide +kernel
theorem dX11_damage_31 : decode cX11_damage 31 = .ok (.if_icmp .ge 47, 3) := by decide +kernel
theorem dX11_damage_34 : decode cX11_damage 34 = .ok (.aload_n 0, 1) := by decide +kernel
theorem dX11_damage_35 : decode cX11_damage 35 = .ok (.getfield 101, 3) := by decide +kernel
theorem dX11_damage_38 : decode cX11_damage 38 = .ok (.ifCond .ne 40, 3) := by decide +kernel
theorem dX11_damage_41 : decode cX11_damage 41 = .ok (.aload_n 0, 1) := by decide +kernel
theorem dX11_damage_42 : decode cX11_damage 42 = .ok (.getfield 83, 3) := by decide +kernel
theorem dX11_damage_45 : decode cX11_damage 45 = .ok (.iload_n 3, 1) := by decide +kernel
theorem dX11_damage_46 : decode cX11_damage 46 = .ok (.iaload, 1) := by decide +kernel
theorem dX11_damage_47 : decode cX11_damage 47 = .ok (.iload_n 1, 1) := by decide +kernel
theorem dX11_damage_48 : decode cX11_damage 48 = .ok (.iconst 1, 1) := by decide +kernel
theorem dX11_damage_49 : decode cX11_damage 49 = .ok (.iadd, 1) := by decide +kernel
theorem dX11_damage_50 : decode cX11_damage 50 = .ok (.if_icmp .ne 22, 3) := by decide +kernel
theorem dX11_damage_53 : decode cX11_damage 53 = .ok (.aload_n 0, 1) := by decide +kernel
theorem dX11_damage_54 : decode cX11_damage 54 = .ok (.getfield 86, 3) := by decide +kernel
theorem dX11_damage_57 : decode cX11_damage 57 = .ok (.iload_n 3, 1) := by decide +kernel
theorem dX11_damage_58 : decode cX11_damage 58 = .ok (.iaload, 1) := by decide +kernel
theorem dX11_damage_59 : decode cX11_damage 59 = .ok (.ifCond .ne 13, 3) := by decide +kernel
theorem dX11_damage_62 : decode cX11_damage 62 = .ok (.aload_n 0, 1) := by decide +kernel
theorem dX11_damage_63 : decode cX11_damage 63 = .ok (.getfield 86, 3) := by decide +kernel
theorem dX11_damage_66 : decode cX11_damage 66 = .ok (.iload_n 3, 1) := by decide +kernel
theorem dX11_damage_67 : decode cX11_damage 67 = .ok (.iconst 1, 1) := by decide +kernel
theorem dX11_damage_68 : decode cX11_damage 68 = .ok (.iastore, 1) := by decide +kernel
theorem dX11_damage_69 : decode cX11_damage 69 = .ok (.iinc 2 1, 3) := by decide +kernel
theorem dX11_damage_72 : decode cX11_damage 72 = .ok (.iinc 3 1, 3) := by decide +kernel
theorem dX11_damage_75 : decode cX11_damage 75 = .ok (.goto (-48), 3) := by decide +kernel
theorem dX11_damage_78 : decode cX11_damage 78 = .ok (.iload_n 2, 1) := by decide +kernel
theorem dX11_damage_79 : decode cX11_damage 79 = .ok (.ireturn, 1) := by decide +kernel
theorem dX11_scrub_0 : decode cX11_scrub 0 = .ok (.aload_n 0, 1) := by decide +kernel
theorem dX11_scrub_1 : decode cX11_scrub 1 = .ok (.iconst 0, 1) := by decide +kernel
theorem dX11_scrub_2 : decode cX11_scrub 2 = .ok (.putfield 101, 3) := by decide +kernel
theorem dX11_scrub_5 : decode cX11_scrub 5 = .ok (.iconst 0, 1) := by decide +kernel
theorem dX11_scrub_6 : decode cX11_scrub 6 = .ok (.istore_n 1, 1) := by decide +kernel
theorem dX11_scrub_7 : decode cX11_scrub 7 = .ok (.iconst 0, 1) := by decide +kernel
theorem dX11_scrub_8 : decode cX11_scrub 8 = .ok (.istore_n 2, 1) := by decide +kernel
theorem dX11_scrub_9 : decode cX11_scrub 9 = .ok (.iload_n 2, 1) := by decide +kernel
theorem dX11_scrub_10 : decode cX11_scrub 10 = .ok (.sipush 20000, 3) := by decide +kernel
theorem dX11_scrub_13 : decode cX11_scrub 13 = .ok (.if_icmp .ge 39, 3) := by decide +kernel
theorem dX11_scrub_16 : decode cX11_scrub 16 = .ok (.aload_n 0, 1) := by decide +kernel
theorem dX11_scrub_17 : decode cX11_scrub 17 = .ok (.getfield 86, 3) := by decide +kernel
theorem dX11_scrub_20 : decode cX11_scrub 20 = .ok (.iload_n 2, 1) := by decide +kernel
theorem dX11_scrub_21 : decode cX11_scrub 21 = .ok (.iaload, 1) := by decide +kernel
theorem dX11_scrub_22 : decode cX11_scrub 22 = .ok (.iconst 1, 1) := by decide +kernel
theorem dX11_scrub_23 : decode cX11_scrub 23 = .ok (.if_icmp .ne 23, 3) := by decide +kernel
theorem dX11_scrub_26 : decode cX11_scrub 26 = .ok (.aload_n 0, 1) := by decide +kernel
theorem dX11_scrub_27 : decode cX11_scrub 27 = .ok (.getfield 89, 3) := by decide +kernel
theorem dX11_scrub_30 : decode cX11_scrub 30 = .ok (.iload_n 2, 1) := by decide +kernel
theorem dX11_scrub_31 : decode cX11_scrub 31 = .ok (.iaload, 1) := by decide +kernel
theorem dX11_scrub_32 : decode cX11_scrub 32 = .ok (.iconst 1, 1) := by decide +kernel
theorem dX11_scrub_33 : decode cX11_scrub 33 = .ok (.if_icmp .ne 13, 3) := by decide +kernel
theorem dX11_scrub_36 : decode cX11_scrub 36 = .ok (.aload_n 0, 1) := by decide +kernel
theorem dX11_scrub_37 : decode cX11_scrub 37 = .ok (.getfield 86, 3) := by decide +kernel
theorem dX11_scrub_40 : decode cX11_scrub 40 = .ok (.iload_n 2, 1) := by decide +kernel
theorem dX11_scrub_41 : decode cX11_scrub 41 = .ok (.iconst 0, 1) := by decide +kernel
theorem dX11_scrub_42 : decode cX11_scrub 42 = .ok (.iastore, 1) := by decide +kernel
theorem dX11_scrub_43 : decode cX11_scrub 43 = .ok (.iinc 1 1, 3) := by decide +kernel
theorem dX11_scrub_46 : decode cX11_scrub 46 = .ok (.iinc 2 1, 3) := by decide +kernel
theorem dX11_scrub_49 : decode cX11_scrub 49 = .ok (.goto (-40), 3) := by decide +kernel
theorem dX11_scrub_52 : decode cX11_scrub 52 = .ok (.iload_n 1, 1) := by decide +kernel
theorem dX11_scrub_53 : decode cX11_scrub 53 = .ok (.ireturn, 1) := by decide +kernel
theorem dX11_follow_0 : decode cX11_follow 0 = .ok (.aload_n 0, 1) := by decide +kernel
theorem dX11_follow_1 : decode cX11_follow 1 = .ok (.iload_n 1, 1) := by decide +kernel
theorem dX11_follow_2 : decode cX11_follow 2 = .ok (.iconst 1, 1) := by decide +kernel
theorem dX11_follow_3 : decode cX11_follow 3 = .ok (.bipush 120, 2) := by decide +kernel
theorem dX11_follow_5 : decode cX11_follow 5 = .ok (.invokestatic 105, 3) := by decide +kernel
theorem dX11_follow_8 : decode cX11_follow 8 = .ok (.ifCond .eq 7, 3) := by decide +kernel
theorem dX11_follow_11 : decode cX11_follow 11 = .ok (.iconst 0, 1) := by decide +kernel
theorem dX11_follow_12 : decode cX11_follow 12 = .ok (.goto 4, 3) := by decide +kernel
theorem dX11_follow_15 : decode cX11_follow 15 = .ok (.iconst 1, 1) := by decide +kernel
theorem dX11_follow_16 : decode cX11_follow 16 = .ok (.putfield 101, 3) := by decide +kernel
theorem dX11_follow_19 : decode cX11_follow 19 = .ok (.iconst 0, 1) := by decide +kernel
theorem dX11_follow_20 : decode cX11_follow 20 = .ok (.istore_n 2, 1) := by decide +kernel
theorem dX11_follow_21 : decode cX11_follow 21 = .ok (.aload_n 0, 1) := by decide +kernel
theorem dX11_follow_22 : decode cX11_follow 22 = .ok (.getfield 101, 3) := by decide +kernel
theorem dX11_follow_25 : decode cX11_follow 25 = .ok (.ifCond .ne 150, 3) := by decide +kernel
theorem dX11_follow_28 : decode cX11_follow 28 = .ok (.iload_n 2, 1) := by decide +kernel
theorem dX11_follow_29 : decode cX11_follow 29 = .ok (.iload_n 1, 1) := by decide +kernel
theorem dX11_follow_30 : decode cX11_follow 30 = .ok (.if_icmp .ge 145, 3) := by decide +kernel
theorem dX11_follow_33 : decode cX11_follow 33 = .ok (.aload_n 0, 1) := by decide +kernel
theorem dX11_follow_34 : decode cX11_follow 34 = .ok (.getfield 258, 3) := by decide +kernel
theorem dX11_follow_37 : decode cX11_follow 37 = .ok (.aload_n 0, 1) := by decide +kernel
theorem dX11_follow_38 : decode cX11_follow 38 = .ok (.getfield 155, 3) := by decide +kernel
theorem dX11_follow_41 : decode cX11_follow 41 = .ok (.if_icmp .ge 134, 3) := by decide +kernel
theorem dX11_follow_44 : decode cX11_follow 44 = .ok (.aload_n 0, 1) := by decide +kernel
theorem dX11_follow_45 : decode cX11_follow 45 = .ok (.getfield 59, 3) := by decide +kernel
theorem dX11_follow_48 : decode cX11_follow 48 = .ok (.aload_n 0, 1) := by decide +kernel
theorem dX11_follow_49 : decode cX11_follow 49 = .ok (.getfield 258, 3) := by decide +kernel
theorem dX11_follow_52 : decode cX11_follow 52 = .ok (.iaload, 1) := by decide +kernel
theorem dX11_follow_53 : decode cX11_follow 53 = .ok (.iconst 1, 1) := by decide +kernel
theorem dX11_follow_54 : decode cX11_follow 54 = .ok (.if_icmp .ne 7, 3) := by decide +kernel
theorem dX11_follow_57 : decode cX11_follow 57 = .ok (.iconst 0, 1) := by decide +kernel
theorem dX11_follow_58 : decode cX11_follow 58 = .ok (.goto 16, 3) := by decide +kernel
theorem dX11_follow_61 : decode cX11_follow 61 = .ok (.aload_n 0, 1) := by decide +kernel
theorem dX11_follow_62 : decode cX11_follow 62 = .ok (.aload_n 0, 1) := by decide +kernel
theorem dX11_follow_63 : decode cX11_follow 63 = .ok (.getfield 56, 3) := by decide +kernel
theorem dX11_follow_66 : decode cX11_follow 66 = .ok (.aload_n 0, 1) := by decide +kernel
theorem dX11_follow_67 : decode cX11_follow 67 = .ok (.getfield 258, 3) := by decide +kernel
theorem dX11_follow_70 : decode cX11_follow 70 = .ok (.laload, 1) := by decide +kernel
theorem dX11_follow_71 : decode cX11_follow 71 = .ok (.invokevirtual 202, 3) := by decide +kernel
theorem dX11_follow_74 : decode cX11_follow 74 = .ok (.istore_n 3, 1) := by decide +kernel
theorem dX11_follow_75 : decode cX11_follow 75 = .ok (.iconst 0, 1) := by decide +kernel
theorem dX11_follow_76 : decode cX11_follow 76 = .ok (.istore 4, 2) := by decide +kernel
theorem dX11_follow_78 : decode cX11_follow 78 = .ok (.iload 4, 2) := by decide +kernel
theorem dX11_follow_80 : decode cX11_follow 80 = .ok (.iload_n 3, 1) := by decide +kernel
theorem dX11_follow_81 : decode cX11_follow 81 = .ok (.if_icmp .ge 67, 3) := by decide +kernel
theorem dX11_follow_84 : decode cX11_follow 84 = .ok (.aload_n 0, 1) := by decide +kernel
theorem dX11_follow_85 : decode cX11_follow 85 = .ok (.getfield 89, 3) := by decide +kernel
theorem dX11_follow_88 : decode cX11_follow 88 = .ok (.aload_n 0, 1) := by decide +kernel
theorem dX11_follow_89 : decode cX11_follow 89 = .ok (.getfield 95, 3) := by decide +kernel
theorem dX11_follow_92 : decode cX11_follow 92 = .ok (.iload 4, 2) := by decide +kernel
theorem dX11_follow_94 : decode cX11_follow 94 = .ok (.iaload, 1) := by decide +kernel
theorem dX11_follow_95 : decode cX11_follow 95 = .ok (.aload_n 0, 1) := by decide +kernel
theorem dX11_follow_96 : decode cX11_follow 96 = .ok (.getfield 83, 3) := by decide +kernel
theorem dX11_follow_99 : decode cX11_follow 99 = .ok (.aload_n 0, 1) := by decide +kernel
theorem dX11_follow_100 : decode cX11_follow 100 = .ok (.getfield 95, 3) := by decide +kernel
theorem dX11_follow_103 : decode cX11_follow 103 = .ok (.iload 4, 2) := by decide +kernel
theorem dX11_follow_105 : decode cX11_follow 105 = .ok (.iaload, 1) := by decide +kernel
theorem dX11_follow_106 : decode cX11_follow 106 = .ok (.iaload, 1) := by decide +kernel
theorem dX11_follow_107 : decode cX11_follow 107 = .ok (.ifCond .le 22, 3) := by decide +kernel
theorem dX11_follow_110 : decode cX11_follow 110 = .ok (.aload_n 0, 1) := by decide +kernel
theorem dX11_follow_111 : decode cX11_follow 111 = .ok (.getfield 86, 3) := by decide +kernel
theorem dX11_follow_114 : decode cX11_follow 114 = .ok (.aload_n 0, 1) := by decide +kernel
theorem dX11_follow_115 : decode cX11_follow 115 = .ok (.getfield 95, 3) := by decide +kernel
theorem dX11_follow_118 : decode cX11_follow 118 = .ok (.iload 4, 2) := by decide +kernel
theorem dX11_follow_120 : decode cX11_follow 120 = .ok (.iaload, 1) := by decide +kernel
theorem dX11_follow_121 : decode cX11_follow 121 = .ok (.iaload, 1) := by decide +kernel
theorem dX11_follow_122 : decode cX11_follow 122 = .ok (.ifCond .ne 7, 3) := by decide +kernel
theorem dX11_follow_125 : decode cX11_follow 125 = .ok (.iconst 1, 1) := by decide +kernel
theorem dX11_follow_126 : decode cX11_follow 126 = .ok (.goto 15, 3) := by decide +kernel
theorem dX11_follow_129 : decode cX11_follow 129 = .ok (.aload_n 0, 1) := by decide +kernel
theorem dX11_follow_130 : decode cX11_follow 130 = .ok (.getfield 89, 3) := by decide +kernel
theorem dX11_follow_133 : decode cX11_follow 133 = .ok (.aload_n 0, 1) := by decide +kernel
theorem dX11_follow_134 : decode cX11_follow 134 = .ok (.getfield 95, 3) := by decide +kernel
theorem dX11_follow_137 : decode cX11_follow 137 = .ok (.iload 4, 2) := by decide +kernel
theorem dX11_follow_139 : decode cX11_follow 139 = .ok (.iaload, 1) := by decide +kernel
theorem dX11_follow_140 : decode cX11_follow 140 = .ok (.iaload, 1) := by decide +kernel
theorem dX11_follow_141 : decode cX11_follow 141 = .ok (.iastore, 1) := by decide +kernel
theorem dX11_follow_142 : decode cX11_follow 142 = .ok (.iinc 4 1, 3) := by decide +kernel
theorem dX11_follow_145 : decode cX11_follow 145 = .ok (.goto (-67), 3) := by decide +kernel
theorem dX11_follow_148 : decode cX11_follow 148 = .ok (.iload_n 2, 1) := by decide +kernel
theorem dX11_follow_149 : decode cX11_follow 149 = .ok (.iconst 1, 1) := by decide +kernel
theorem dX11_follow_150 : decode cX11_follow 150 = .ok (.aload_n 0, 1) := by decide +kernel
theorem dX11_follow_151 : decode cX11_follow 151 = .ok (.getfield 59, 3) := by decide +kernel
theorem dX11_follow_154 : decode cX11_follow 154 = .ok (.aload_n 0, 1) := by decide +kernel
theorem dX11_follow_155 : decode cX11_follow 155 = .ok (.getfield 258, 3) := by decide +kernel
theorem dX11_follow_158 : decode cX11_follow 158 = .ok (.iaload, 1) := by decide +kernel
theorem dX11_follow_159 : decode cX11_follow 159 = .ok (.isub, 1) := by decide +kernel
theorem dX11_follow_160 : decode cX11_follow 160 = .ok (.iadd, 1) := by decide +kernel
theorem dX11_follow_161 : decode cX11_follow 161 = .ok (.istore_n 2, 1) := by decide +kernel
theorem dX11_follow_162 : decode cX11_follow 162 = .ok (.aload_n 0, 1) := by decide +kernel
theorem dX11_follow_163 : decode cX11_follow 163 = .ok (.dup, 1) := by decide +kernel
theorem dX11_follow_164 : decode cX11_follow 164 = .ok (.getfield 258, 3) := by decide +kernel
theorem dX11_follow_167 : decode cX11_follow 167 = .ok (.iconst 1, 1) := by decide +kernel
theorem dX11_follow_168 : decode cX11_follow 168 = .ok (.iadd, 1) := by decide +kernel
theorem dX11_follow_169 : decode cX11_follow 169 = .ok (.putfield 258, 3) := by decide +kernel
theorem dX11_follow_172 : decode cX11_follow 172 = .ok (.goto (-151), 3) := by decide +kernel
theorem dX11_follow_175 : decode cX11_follow 175 = .ok (.iload_n 2, 1) := by decide +kernel
theorem dX11_follow_176 : decode cX11_follow 176 = .ok (.ireturn, 1) := by decide +kernel
theorem dX11_pass_0 : decode cX11_pass 0 = .ok (.aload_n 0, 1) := by decide +kernel
theorem dX11_pass_1 : decode cX11_pass 1 = .ok (.iload_n 1, 1) := by decide +kernel
theorem dX11_pass_2 : decode cX11_pass 2 = .ok (.iconst 1, 1) := by decide +kernel
theorem dX11_pass_3 : decode cX11_pass 3 = .ok (.bipush 100, 2) := by decide +kernel
theorem dX11_pass_5 : decode cX11_pass 5 = .ok (.invokestatic 105, 3) := by decide +kernel
theorem dX11_pass_8 : decode cX11_pass 8 = .ok (.ifCond .ne 7, 3) := by decide +kernel
theorem dX11_pass_11 : decode cX11_pass 11 = .ok (.iconst 1, 1) := by decide +kernel
theorem dX11_pass_12 : decode cX11_pass 12 = .ok (.goto 20, 3) := by decide +kernel
theorem dX11_pass_15 : decode cX11_pass 15 = .ok (.aload_n 0, 1) := by decide +kernel
theorem dX11_pass_16 : decode cX11_pass 16 = .ok (.getfield 132, 3) := by decide +kernel
theorem dX11_pass_19 : decode cX11_pass 19 = .ok (.iload_n 1, 1) := by decide +kernel
theorem dX11_pass_20 : decode cX11_pass 20 = .ok (.iadd, 1) := by decide +kernel
theorem dX11_pass_21 : decode cX11_pass 21 = .ok (.sipush 2000, 3) := by decide +kernel
theorem dX11_pass_24 : decode cX11_pass 24 = .ok (.if_icmp .le 7, 3) := by decide +kernel
theorem dX11_pass_27 : decode cX11_pass 27 = .ok (.iconst 2, 1) := by decide +kernel
theorem dX11_pass_28 : decode cX11_pass 28 = .ok (.goto 4, 3) := by decide +kernel
theorem dX11_pass_31 : decode cX11_pass 31 = .ok (.iconst 0, 1) := by decide +kernel
theorem dX11_pass_32 : decode cX11_pass 32 = .ok (.putfield 101, 3) := by decide +kernel
theorem dX11_pass_35 : decode cX11_pass 35 = .ok (.iconst 0, 1) := by decide +kernel
theorem dX11_pass_36 : decode cX11_pass 36 = .ok (.istore_n 2, 1) := by decide +kernel
theorem dX11_pass_37 : decode cX11_pass 37 = .ok (.iload_n 2, 1) := by decide +kernel
theorem dX11_pass_38 : decode cX11_pass 38 = .ok (.iload_n 1, 1) := by decide +kernel
theorem dX11_pass_39 : decode cX11_pass 39 = .ok (.if_icmp .ge 72, 3) := by decide +kernel
theorem dX11_pass_42 : decode cX11_pass 42 = .ok (.aload_n 0, 1) := by decide +kernel
theorem dX11_pass_43 : decode cX11_pass 43 = .ok (.getfield 101, 3) := by decide +kernel
theorem dX11_pass_46 : decode cX11_pass 46 = .ok (.ifCond .ne 65, 3) := by decide +kernel
theorem dX11_pass_49 : decode cX11_pass 49 = .ok (.aload_n 0, 1) := by decide +kernel
theorem dX11_pass_50 : decode cX11_pass 50 = .ok (.dup, 1) := by decide +kernel
theorem dX11_pass_51 : decode cX11_pass 51 = .ok (.getfield 132, 3) := by decide +kernel
theorem dX11_pass_54 : decode cX11_pass 54 = .ok (.iconst 1, 1) := by decide +kernel
theorem dX11_pass_55 : decode cX11_pass 55 = .ok (.iadd, 1) := by decide +kernel
theorem dX11_pass_56 : decode cX11_pass 56 = .ok (.putfield 132, 3) := by decide +kernel
theorem dX11_pass_59 : decode cX11_pass 59 = .ok (.iconst 0, 1) := by decide +kernel
theorem dX11_pass_60 : decode cX11_pass 60 = .ok (.istore_n 3, 1) := by decide +kernel
theorem dX11_pass_61 : decode cX11_pass 61 = .ok (.iload_n 3, 1) := by decide +kernel
theorem dX11_pass_62 : decode cX11_pass 62 = .ok (.aload_n 0, 1) := by decide +kernel
theorem dX11_pass_63 : decode cX11_pass 63 = .ok (.getfield 129, 3) := by decide +kernel
theorem dX11_pass_66 : decode cX11_pass 66 = .ok (.if_icmp .ge 39, 3) := by decide +kernel
theorem dX11_pass_69 : decode cX11_pass 69 = .ok (.aload_n 0, 1) := by decide +kernel
theorem dX11_pass_70 : decode cX11_pass 70 = .ok (.getfield 41, 3) := by decide +kernel
theorem dX11_pass_73 : decode cX11_pass 73 = .ok (.iload_n 3, 1) := by decide +kernel
theorem dX11_pass_74 : decode cX11_pass 74 = .ok (.iaload, 1) := by decide +kernel
theorem dX11_pass_75 : decode cX11_pass 75 = .ok (.aload_n 0, 1) := by decide +kernel
theorem dX11_pass_76 : decode cX11_pass 76 = .ok (.getfield 132, 3) := by decide +kernel
theorem dX11_pass_79 : decode cX11_pass 79 = .ok (.if_icmp .ne 20, 3) := by decide +kernel
theorem dX11_pass_82 : decode cX11_pass 82 = .ok (.aload_n 0, 1) := by decide +kernel
theorem dX11_pass_83 : decode cX11_pass 83 = .ok (.aload_n 0, 1) := by decide +kernel
theorem dX11_pass_84 : decode cX11_pass 84 = .ok (.getfield 38, 3) := by decide +kernel
theorem dX11_pass_87 : decode cX11_pass 87 = .ok (.iload_n 3, 1) := by decide +kernel
theorem dX11_pass_88 : decode cX11_pass 88 = .ok (.iaload, 1) := by decide +kernel
theorem dX11_pass_89 : decode cX11_pass 89 = .ok (.invokevirtual 126, 3) := by decide +kernel
theorem dX11_pass_92 : decode cX11_pass 92 = .ok (.aload_n 0, 1) := by decide +kernel
theorem dX11_pass_93 : decode cX11_pass 93 = .ok (.getfield 41, 3) := by decide +kernel
theorem dX11_pass_96 : decode cX11_pass 96 = .ok (.iload_n 3, 1) := by decide +kernel
theorem dX11_pass_97 : decode cX11_pass 97 = .ok (.iconst 0, 1) := by decide +kernel
theorem dX11_pass_98 : decode cX11_pass 98 = .ok (.iastore, 1) := by decide +kernel
theorem dX11_pass_99 : decode cX11_pass 99 = .ok (.iinc 3 1, 3) := by decide +kernel
theorem dX11_pass_102 : decode cX11_pass 102 = .ok (.goto (-41), 3) := by decide +kernel
theorem dX11_pass_105 : decode cX11_pass 105 = .ok (.iinc 2 1, 3) := by decide +kernel
theorem dX11_pass_108 : decode cX11_pass 108 = .ok (.goto (-71), 3) := by decide +kernel
theorem dX11_pass_111 : decode cX11_pass 111 = .ok (.aload_n 0, 1) := by decide +kernel
theorem dX11_pass_112 : decode cX11_pass 112 = .ok (.getfield 101, 3) := by decide +kernel
theorem dX11_pass_115 : decode cX11_pass 115 = .ok (.ifCond .ne 10, 3) := by decide +kernel
theorem dX11_pass_118 : decode cX11_pass 118 = .ok (.aload_n 0, 1) := by decide +kernel
theorem dX11_pass_119 : decode cX11_pass 119 = .ok (.getfield 132, 3) := by decide +kernel
theorem dX11_pass_122 : decode cX11_pass 122 = .ok (.goto 4, 3) := by decide +kernel
theorem dX11_pass_125 : decode cX11_pass 125 = .ok (.iconst 0, 1) := by decide +kernel
theorem dX11_pass_126 : decode cX11_pass 126 = .ok (.ireturn, 1) := by decide +kernel
theorem dX11_asks_0 : decode cX11_asks 0 = .ok (.aload_n 0, 1) := by decide +kernel
theorem dX11_asks_1 : decode cX11_asks 1 = .ok (.iload_n 1, 1) := by decide +kernel
theorem dX11_asks_2 : decode cX11_asks 2 = .ok (.invokestatic 135, 3) := by decide +kernel
theorem dX11_asks_5 : decode cX11_asks 5 = .ok (.ifCond .eq 14, 3) := by decide +kernel
theorem dX11_asks_8 : decode cX11_asks 8 = .ok (.iload_n 2, 1) := by decide +kernel
theorem dX11_asks_9 : decode cX11_asks 9 = .ok (.invokestatic 139, 3) := by decide +kernel
theorem dX11_asks_12 : decode cX11_asks 12 = .ok (.ifCond .eq 7, 3) := by decide +kernel
theorem dX11_asks_15 : decode cX11_asks 15 = .ok (.iconst 0, 1) := by decide +kernel
theorem dX11_asks_16 : decode cX11_asks 16 = .ok (.goto 4, 3) := by decide +kernel
theorem dX11_asks_19 : decode cX11_asks 19 = .ok (.iconst 1, 1) := by decide +kernel
theorem dX11_asks_20 : decode cX11_asks 20 = .ok (.putfield 101, 3) := by decide +kernel
theorem dX11_asks_23 : decode cX11_asks 23 = .ok (.aload_n 0, 1) := by decide +kernel
theorem dX11_asks_24 : decode cX11_asks 24 = .ok (.getfield 101, 3) := by decide +kernel
theorem dX11_asks_27 : decode cX11_asks 27 = .ok (.ifCond .ne 12, 3) := by decide +kernel
theorem dX11_asks_30 : decode cX11_asks 30 = .ok (.bipush 16, 2) := by decide +kernel
theorem dX11_asks_32 : decode cX11_asks 32 = .ok (.iload_n 1, 1) := by decide +kernel
theorem dX11_asks_33 : decode cX11_asks 33 = .ok (.imul, 1) := by decide +kernel
theorem dX11_asks_34 : decode cX11_asks 34 = .ok (.iload_n 2, 1) := by decide +kernel
theorem dX11_asks_35 : decode cX11_asks 35 = .ok (.iadd, 1) := by decide +kernel
theorem dX11_asks_36 : decode cX11_asks 36 = .ok (.goto 4, 3) := by decide +kernel
theorem dX11_asks_39 : decode cX11_asks 39 = .ok (.iconst (-1), 1) := by decide +kernel
theorem dX11_asks_40 : decode cX11_asks 40 = .ok (.ireturn, 1) := by decide +kernel
theorem dX11_time_0 : decode cX11_time 0 = .ok (.aload_n 0, 1) := by decide +kernel
theorem dX11_time_1 : decode cX11_time 1 = .ok (.iconst 0, 1) := by decide +kernel
theorem dX11_time_2 : decode cX11_time 2 = .ok (.putfield 101, 3) := by decide +kernel
theorem dX11_time_5 : decode cX11_time 5 = .ok (.aload_n 0, 1) := by decide +kernel
theorem dX11_time_6 : decode cX11_time 6 = .ok (.getfield 132, 3) := by decide +kernel
theorem dX11_time_9 : decode cX11_time 9 = .ok (.ireturn, 1) := by decide +kernel
theorem dX11_stateOf_0 : decode cX11_stateOf 0 = .ok (.aload_n 0, 1) := by decide +kernel
theorem dX11_stateOf_1 : decode cX11_stateOf 1 = .ok (.iload_n 1, 1) := by decide +kernel
theorem dX11_stateOf_2 : decode cX11_stateOf 2 = .ok (.iload_n 2, 1) := by decide +kernel
theorem dX11_stateOf_3 : decode cX11_stateOf 3 = .ok (.invokevirtual 261, 3) := by decide +kernel
theorem dX11_stateOf_6 : decode cX11_stateOf 6 = .ok (.istore_n 3, 1) := by decide +kernel
theorem dX11_stateOf_7 : decode cX11_stateOf 7 = .ok (.iload_n 3, 1) := by decide +kernel
theorem dX11_stateOf_8 : decode cX11_stateOf 8 = .ok (.iconst (-1), 1) := by decide +kernel
theorem dX11_stateOf_9 : decode cX11_stateOf 9 = .ok (.if_icmp .ne 7, 3) := by decide +kernel
theorem dX11_stateOf_12 : decode cX11_stateOf 12 = .ok (.iconst 0, 1) := by decide +kernel
theorem dX11_stateOf_13 : decode cX11_stateOf 13 = .ok (.goto 9, 3) := by decide +kernel
theorem dX11_stateOf_16 : decode cX11_stateOf 16 = .ok (.aload_n 0, 1) := by decide +kernel
theorem dX11_stateOf_17 : decode cX11_stateOf 17 = .ok (.getfield 7, 3) := by decide +kernel
theorem dX11_stateOf_20 : decode cX11_stateOf 20 = .ok (.iload_n 3, 1) := by decide +kernel
theorem dX11_stateOf_21 : decode cX11_stateOf 21 = .ok (.iaload, 1) := by decide +kernel
theorem dX11_stateOf_22 : decode cX11_stateOf 22 = .ok (.ireturn, 1) := by decide +kernel
theorem dX11_folderOf_0 : decode cX11_folderOf 0 = .ok (.aload_n 0, 1) := by decide +kernel
theorem dX11_folderOf_1 : decode cX11_folderOf 1 = .ok (.iload_n 1, 1) := by decide +kernel
theorem dX11_folderOf_2 : decode cX11_folderOf 2 = .ok (.iload_n 2, 1) := by decide +kernel
theorem dX11_folderOf_3 : decode cX11_folderOf 3 = .ok (.invokevirtual 261, 3) := by decide +kernel
theorem dX11_folderOf_6 : decode cX11_folderOf 6 = .ok (.istore_n 3, 1) := by decide +kernel
theorem dX11_folderOf_7 : decode cX11_folderOf 7 = .ok (.iload_n 3, 1) := by decide +kernel
theorem dX11_folderOf_8 : decode cX11_folderOf 8 = .ok (.iconst (-1), 1) := by decide +kernel
theorem dX11_folderOf_9 : decode cX11_folderOf 9 = .ok (.if_icmp .ne 7, 3) := by decide +kernel
theorem dX11_folderOf_12 : decode cX11_folderOf 12 = .ok (.iconst 0, 1) := by decide +kernel
theorem dX11_folderOf_13 : decode cX11_folderOf 13 = .ok (.goto 22, 3) := by decide +kernel
theorem dX11_folderOf_16 : decode cX11_folderOf 16 = .ok (.aload_n 0, 1) := by decide +kernel
theorem dX11_folderOf_17 : decode cX11_folderOf 17 = .ok (.getfield 7, 3) := by decide +kernel
theorem dX11_folderOf_20 : decode cX11_folderOf 20 = .ok (.iload_n 3, 1) := by decide +kernel
theorem dX11_folderOf_21 : decode cX11_folderOf 21 = .ok (.iaload, 1) := by decide +kernel
theorem dX11_folderOf_22 : decode cX11_folderOf 22 = .ok (.ifCond .ne 7, 3) := by decide +kernel
theorem dX11_folderOf_25 : decode cX11_folderOf 25 = .ok (.iconst (-1), 1) := by decide +kernel
theorem dX11_folderOf_26 : decode cX11_folderOf 26 = .ok (.goto 9, 3) := by decide +kernel
theorem dX11_folderOf_29 : decode cX11_folderOf 29 = .ok (.aload_n 0, 1) := by decide +kernel
theorem dX11_folderOf_30 : decode cX11_folderOf 30 = .ok (.getfield 17, 3) := by decide +kernel
theorem dX11_folderOf_33 : decode cX11_folderOf 33 = .ok (.iload_n 3, 1) := by decide +kernel
theorem dX11_folderOf_34 : decode cX11_folderOf 34 = .ok (.iaload, 1) := by decide +kernel
theorem dX11_folderOf_35 : decode cX11_folderOf 35 = .ok (.ireturn, 1) := by decide +kernel
theorem dX11_numberAt_0 : decode cX11_numberAt 0 = .ok (.iload_n 3, 1) := by decide +kernel
theorem dX11_numberAt_1 : decode cX11_numberAt 1 = .ok (.ifCond .ge 7, 3) := by decide +kernel
theorem dX11_numberAt_4 : decode cX11_numberAt 4 = .ok (.iconst (-1), 1) := by decide +kernel
theorem dX11_numberAt_5 : decode cX11_numberAt 5 = .ok (.goto 9, 3) := by decide +kernel
theorem dX11_numberAt_8 : decode cX11_numberAt 8 = .ok (.aload_n 0, 1) := by decide +kernel
theorem dX11_numberAt_9 : decode cX11_numberAt 9 = .ok (.iload_n 1, 1) := by decide +kernel
theorem dX11_numberAt_10 : decode cX11_numberAt 10 = .ok (.iload_n 2, 1) := by decide +kernel
theorem dX11_numberAt_11 : decode cX11_numberAt 11 = .ok (.invokevirtual 261, 3) := by decide +kernel
theorem dX11_numberAt_14 : decode cX11_numberAt 14 = .ok (.istore 4, 2) := by decide +kernel
theorem dX11_numberAt_16 : decode cX11_numberAt 16 = .ok (.aload_n 0, 1) := by decide +kernel
theorem dX11_numberAt_17 : decode cX11_numberAt 17 = .ok (.iload 4, 2) := by decide +kernel
theorem dX11_numberAt_19 : decode cX11_numberAt 19 = .ok (.iconst (-1), 1) := by decide +kernel
theorem dX11_numberAt_20 : decode cX11_numberAt 20 = .ok (.if_icmp .ne 7, 3) := by decide +kernel
theorem dX11_numberAt_23 : decode cX11_numberAt 23 = .ok (.iconst 1, 1) := by decide +kernel
theorem dX11_numberAt_24 : decode cX11_numberAt 24 = .ok (.goto 4, 3) := by decide +kernel
theorem dX11_numberAt_27 : decode cX11_numberAt 27 = .ok (.iconst 0, 1) := by decide +kernel
theorem dX11_numberAt_28 : decode cX11_numberAt 28 = .ok (.putfield 101, 3) := by decide +kernel
theorem dX11_numberAt_31 : decode cX11_numberAt 31 = .ok (.iload 4, 2) := by decide +kernel
theorem dX11_numberAt_33 : decode cX11_numberAt 33 = .ok (.iconst (-1), 1) := by decide +kernel
theorem dX11_numberAt_34 : decode cX11_numberAt 34 = .ok (.if_icmp .ne 7, 3) := by decide +kernel
theorem dX11_numberAt_37 : decode cX11_numberAt 37 = .ok (.iconst 0, 1) := by decide +kernel
theorem dX11_numberAt_38 : decode cX11_numberAt 38 = .ok (.goto 43, 3) := by decide +kernel
theorem dX11_numberAt_41 : decode cX11_numberAt 41 = .ok (.aload_n 0, 1) := by decide +kernel
theorem dX11_numberAt_42 : decode cX11_numberAt 42 = .ok (.getfield 7, 3) := by decide +kernel
theorem dX11_numberAt_45 : decode cX11_numberAt 45 = .ok (.iload 4, 2) := by decide +kernel
theorem dX11_numberAt_47 : decode cX11_numberAt 47 = .ok (.iaload, 1) := by decide +kernel
theorem dX11_numberAt_48 : decode cX11_numberAt 48 = .ok (.iconst 2, 1) := by decide +kernel
theorem dX11_numberAt_49 : decode cX11_numberAt 49 = .ok (.if_icmp .ne 17, 3) := by decide +kernel
theorem dX11_numberAt_52 : decode cX11_numberAt 52 = .ok (.iload_n 3, 1) := by decide +kernel
theorem dX11_numberAt_53 : decode cX11_numberAt 53 = .ok (.aload_n 0, 1) := by decide +kernel
theorem dX11_numberAt_54 : decode cX11_numberAt 54 = .ok (.getfield 13, 3) := by decide +kernel
theorem dX11_numberAt_57 : decode cX11_numberAt 57 = .ok (.iload 4, 2) := by decide +kernel
theorem dX11_numberAt_59 : decode cX11_numberAt 59 = .ok (.laload, 1) := by decide +kernel
theorem dX11_numberAt_60 : decode cX11_numberAt 60 = .ok (.invokestatic 111, 3) := by decide +kernel
theorem dX11_numberAt_63 : decode cX11_numberAt 63 = .ok (.if_icmp .lt 7, 3) := by decide +kernel
theorem dX11_numberAt_66 : decode cX11_numberAt 66 = .ok (.iconst (-1), 1) := by decide +kernel
theorem dX11_numberAt_67 : decode cX11_numberAt 67 = .ok (.goto 14, 3) := by decide +kernel
theorem dX11_numberAt_70 : decode cX11_numberAt 70 = .ok (.aload_n 0, 1) := by decide +kernel
theorem dX11_numberAt_71 : decode cX11_numberAt 71 = .ok (.getfield 13, 3) := by decide +kernel
theorem dX11_numberAt_74 : decode cX11_numberAt 74 = .ok (.iload 4, 2) := by decide +kernel
theorem dX11_numberAt_76 : decode cX11_numberAt 76 = .ok (.laload, 1) := by decide +kernel
theorem dX11_numberAt_77 : decode cX11_numberAt 77 = .ok (.iload_n 3, 1) := by decide +kernel
theorem dX11_numberAt_78 : decode cX11_numberAt 78 = .ok (.invokestatic 115, 3) := by decide +kernel
theorem dX11_numberAt_81 : decode cX11_numberAt 81 = .ok (.ireturn, 1) := by decide +kernel
theorem dX11_isChanged_0 : decode cX11_isChanged 0 = .ok (.aload_n 0, 1) := by decide +kernel
theorem dX11_isChanged_1 : decode cX11_isChanged 1 = .ok (.iload_n 1, 1) := by decide +kernel
theorem dX11_isChanged_2 : decode cX11_isChanged 2 = .ok (.iload_n 2, 1) := by decide +kernel
theorem dX11_isChanged_3 : decode cX11_isChanged 3 = .ok (.invokevirtual 261, 3) := by decide +kernel
theorem dX11_isChanged_6 : decode cX11_isChanged 6 = .ok (.istore_n 3, 1) := by decide +kernel
theorem dX11_isChanged_7 : decode cX11_isChanged 7 = .ok (.iload_n 3, 1) := by decide +kernel
theorem dX11_isChanged_8 : decode cX11_isChanged 8 = .ok (.iconst (-1), 1) := by decide +kernel
theorem dX11_isChanged_9 : decode cX11_isChanged 9 = .ok (.if_icmp .eq 15, 3) := by decide +kernel
theorem dX11_isChanged_12 : decode cX11_isChanged 12 = .ok (.aload_n 0, 1) := by decide +kernel
theorem dX11_isChanged_13 : decode cX11_isChanged 13 = .ok (.iload_n 3, 1) := by decide +kernel
theorem dX11_isChanged_14 : decode cX11_isChanged 14 = .ok (.invokevirtual 152, 3) := by decide +kernel
theorem dX11_isChanged_17 : decode cX11_isChanged 17 = .ok (.ifCond .eq 7, 3) := by decide +kernel
theorem dX11_isChanged_20 : decode cX11_isChanged 20 = .ok (.iconst 1, 1) := by decide +kernel
theorem dX11_isChanged_21 : decode cX11_isChanged 21 = .ok (.goto 4, 3) := by decide +kernel
theorem dX11_isChanged_24 : decode cX11_isChanged 24 = .ok (.iconst 0, 1) := by decide +kernel
theorem dX11_isChanged_25 : decode cX11_isChanged 25 = .ok (.ireturn, 1) := by decide +kernel
theorem dX11_seen_0 : decode cX11_seen 0 = .ok (.aload_n 0, 1) := by decide +kernel
theorem dX11_seen_1 : decode cX11_seen 1 = .ok (.iload_n 1, 1) := by decide +kernel
theorem dX11_seen_2 : decode cX11_seen 2 = .ok (.iload_n 2, 1) := by decide +kernel
theorem dX11_seen_3 : decode cX11_seen 3 = .ok (.invokevirtual 261, 3) := by decide +kernel
theorem dX11_seen_6 : decode cX11_seen 6 = .ok (.istore_n 3, 1) := by decide +kernel
theorem dX11_seen_7 : decode cX11_seen 7 = .ok (.iload_n 3, 1) := by decide +kernel
theorem dX11_seen_8 : decode cX11_seen 8 = .ok (.iconst (-1), 1) := by decide +kernel
theorem dX11_seen_9 : decode cX11_seen 9 = .ok (.if_icmp .ne 7, 3) := by decide +kernel
theorem dX11_seen_12 : decode cX11_seen 12 = .ok (.iconst 0, 1) := by decide +kernel
theorem dX11_seen_13 : decode cX11_seen 13 = .ok (.goto 11, 3) := by decide +kernel
theorem dX11_seen_16 : decode cX11_seen 16 = .ok (.aload_n 0, 1) := by decide +kernel
theorem dX11_seen_17 : decode cX11_seen 17 = .ok (.getfield 20, 3) := by decide +kernel
theorem dX11_seen_20 : decode cX11_seen 20 = .ok (.iload_n 3, 1) := by decide +kernel
theorem dX11_seen_21 : decode cX11_seen 21 = .ok (.iaload, 1) := by decide +kernel
theorem dX11_seen_22 : decode cX11_seen 22 = .ok (.iconst 1, 1) := by decide +kernel
theorem dX11_seen_23 : decode cX11_seen 23 = .ok (.isub, 1) := by decide +kernel
theorem dX11_seen_24 : decode cX11_seen 24 = .ok (.ireturn, 1) := by decide +kernel
theorem dX11_noted_0 : decode cX11_noted 0 = .ok (.aload_n 0, 1) := by decide +kernel
theorem dX11_noted_1 : decode cX11_noted 1 = .ok (.iload_n 1, 1) := by decide +kernel
theorem dX11_noted_2 : decode cX11_noted 2 = .ok (.invokestatic 135, 3) := by decide +kernel
theorem dX11_noted_5 : decode cX11_noted 5 = .ok (.ifCond .eq 7, 3) := by decide +kernel
theorem dX11_noted_8 : decode cX11_noted 8 = .ok (.iconst 0, 1) := by decide +kernel
theorem dX11_noted_9 : decode cX11_noted 9 = .ok (.goto 4, 3) := by decide +kernel
theorem dX11_noted_12 : decode cX11_noted 12 = .ok (.iconst 1, 1) := by decide +kernel
theorem dX11_noted_13 : decode cX11_noted 13 = .ok (.putfield 101, 3) := by decide +kernel
theorem dX11_noted_16 : decode cX11_noted 16 = .ok (.iconst 0, 1) := by decide +kernel
theorem dX11_noted_17 : decode cX11_noted 17 = .ok (.istore_n 2, 1) := by decide +kernel
theorem dX11_noted_18 : decode cX11_noted 18 = .ok (.bipush 16, 2) := by decide +kernel
theorem dX11_noted_20 : decode cX11_noted 20 = .ok (.iload_n 1, 1) := by decide +kernel
theorem dX11_noted_21 : decode cX11_noted 21 = .ok (.imul, 1) := by decide +kernel
theorem dX11_noted_22 : decode cX11_noted 22 = .ok (.istore_n 3, 1) := by decide +kernel
theorem dX11_noted_23 : decode cX11_noted 23 = .ok (.iload_n 3, 1) := by decide +kernel
theorem dX11_noted_24 : decode cX11_noted 24 = .ok (.bipush 16, 2) := by decide +kernel
theorem dX11_noted_26 : decode cX11_noted 26 = .ok (.iload_n 1, 1) := by decide +kernel
theorem dX11_noted_27 : decode cX11_noted 27 = .ok (.imul, 1) := by decide +kernel
theorem dX11_noted_28 : decode cX11_noted 28 = .ok (.bipush 16, 2) := by decide +kernel
theorem dX11_noted_30 : decode cX11_noted 30 = .ok (.iadd, 1) := by decide +kernel
theorem dX11_noted_31 : decode cX11_noted 31 = .ok (.if_icmp .ge 33, 3) := by decide +kernel
theorem dX11_noted_34 : decode cX11_noted 34 = .ok (.aload_n 0, 1) := by decide +kernel
theorem dX11_noted_35 : decode cX11_noted 35 = .ok (.getfield 101, 3) := by decide +kernel
theorem dX11_noted_38 : decode cX11_noted 38 = .ok (.ifCond .ne 26, 3) := by decide +kernel
theorem dX11_noted_41 : decode cX11_noted 41 = .ok (.iload_n 2, 1) := by decide +kernel
theorem dX11_noted_42 : decode cX11_noted 42 = .ok (.aload_n 0, 1) := by decide +kernel
theorem dX11_noted_43 : decode cX11_noted 43 = .ok (.getfield 29, 3) := by decide +kernel
theorem dX11_noted_46 : decode cX11_noted 46 = .ok (.iload_n 3, 1) := by decide +kernel
theorem dX11_noted_47 : decode cX11_noted 47 = .ok (.iaload, 1) := by decide +kernel
theorem dX11_noted_48 : decode cX11_noted 48 = .ok (.ifCond .le 7, 3) := by decide +kernel
theorem dX11_noted_51 : decode cX11_noted 51 = .ok (.iconst 1, 1) := by decide +kernel
theorem dX11_noted_52 : decode cX11_noted 52 = .ok (.goto 4, 3) := by decide +kernel
theorem dX11_noted_55 : decode cX11_noted 55 = .ok (.iconst 0, 1) := by decide +kernel
theorem dX11_noted_56 : decode cX11_noted 56 = .ok (.iadd, 1) := by decide +kernel
theorem dX11_noted_57 : decode cX11_noted 57 = .ok (.istore_n 2, 1) := by decide +kernel
theorem dX11_noted_58 : decode cX11_noted 58 = .ok (.iinc 3 1, 3) := by decide +kernel
theorem dX11_noted_61 : decode cX11_noted 61 = .ok (.goto (-38), 3) := by decide +kernel
theorem dX11_noted_64 : decode cX11_noted 64 = .ok (.iload_n 2, 1) := by decide +kernel
theorem dX11_noted_65 : decode cX11_noted 65 = .ok (.ireturn, 1) := by decide +kernel
theorem dX11_taken_0 : decode cX11_taken 0 = .ok (.aload_n 0, 1) := by decide +kernel
theorem dX11_taken_1 : decode cX11_taken 1 = .ok (.iload_n 1, 1) := by decide +kernel
theorem dX11_taken_2 : decode cX11_taken 2 = .ok (.invokestatic 135, 3) := by decide +kernel
theorem dX11_taken_5 : decode cX11_taken 5 = .ok (.ifCond .eq 7, 3) := by decide +kernel
theorem dX11_taken_8 : decode cX11_taken 8 = .ok (.iconst 0, 1) := by decide +kernel
theorem dX11_taken_9 : decode cX11_taken 9 = .ok (.goto 4, 3) := by decide +kernel
theorem dX11_taken_12 : decode cX11_taken 12 = .ok (.iconst 1, 1) := by decide +kernel
theorem dX11_taken_13 : decode cX11_taken 13 = .ok (.putfield 101, 3) := by decide +kernel
theorem dX11_taken_16 : decode cX11_taken 16 = .ok (.aload_n 0, 1) := by decide +kernel
theorem dX11_taken_17 : decode cX11_taken 17 = .ok (.getfield 101, 3) := by decide +kernel
theorem dX11_taken_20 : decode cX11_taken 20 = .ok (.ifCond .ne 11, 3) := by decide +kernel
theorem dX11_taken_23 : decode cX11_taken 23 = .ok (.aload_n 0, 1) := by decide +kernel
theorem dX11_taken_24 : decode cX11_taken 24 = .ok (.iload_n 1, 1) := by decide +kernel
theorem dX11_taken_25 : decode cX11_taken 25 = .ok (.invokevirtual 220, 3) := by decide +kernel
theorem dX11_taken_28 : decode cX11_taken 28 = .ok (.goto 4, 3) := by decide +kernel
theorem dX11_taken_31 : decode cX11_taken 31 = .ok (.iconst 0, 1) := by decide +kernel
theorem dX11_taken_32 : decode cX11_taken 32 = .ok (.ireturn, 1) := by decide +kernel
theorem dX11_versions_0 : decode cX11_versions 0 = .ok (.aload_n 0, 1) := by decide +kernel
theorem dX11_versions_1 : decode cX11_versions 1 = .ok (.iconst 0, 1) := by decide +kernel
theorem dX11_versions_2 : decode cX11_versions 2 = .ok (.putfield 101, 3) := by decide +kernel
theorem dX11_versions_5 : decode cX11_versions 5 = .ok (.aload_n 0, 1) := by decide +kernel
theorem dX11_versions_6 : decode cX11_versions 6 = .ok (.getfield 155, 3) := by decide +kernel
theorem dX11_versions_9 : decode cX11_versions 9 = .ok (.ireturn, 1) := by decide +kernel
theorem dX11_version_0 : decode cX11_version 0 = .ok (.aload_n 0, 1) := by decide +kernel
theorem dX11_version_1 : decode cX11_version 1 = .ok (.iload_n 1, 1) := by decide +kernel
theorem dX11_version_2 : decode cX11_version 2 = .ok (.iconst 0, 1) := by decide +kernel
theorem dX11_version_3 : decode cX11_version 3 = .ok (.aload_n 0, 1) := by decide +kernel
theorem dX11_version_4 : decode cX11_version 4 = .ok (.getfield 155, 3) := by decide +kernel
theorem dX11_version_7 : decode cX11_version 7 = .ok (.iconst 1, 1) := by decide +kernel
theorem dX11_version_8 : decode cX11_version 8 = .ok (.isub, 1) := by decide +kernel
theorem dX11_version_9 : decode cX11_version 9 = .ok (.invokestatic 105, 3) := by decide +kernel
theorem dX11_version_12 : decode cX11_version 12 = .ok (.ifCond .ne 7, 3) := by decide +kernel
theorem dX11_version_15 : decode cX11_version 15 = .ok (.iconst 1, 1) := by decide +kernel
theorem dX11_version_16 : decode cX11_version 16 = .ok (.goto 17, 3) := by decide +kernel
theorem dX11_version_19 : decode cX11_version 19 = .ok (.iload_n 2, 1) := by decide +kernel
theorem dX11_version_20 : decode cX11_version 20 = .ok (.iconst 0, 1) := by decide +kernel
theorem dX11_version_21 : decode cX11_version 21 = .ok (.iconst 5, 1) := by decide +kernel
theorem dX11_version_22 : decode cX11_version 22 = .ok (.invokestatic 105, 3) := by decide +kernel
theorem dX11_version_25 : decode cX11_version 25 = .ok (.ifCond .ne 7, 3) := by decide +kernel
theorem dX11_version_28 : decode cX11_version 28 = .ok (.iconst 2, 1) := by decide +kernel
theorem dX11_version_29 : decode cX11_version 29 = .ok (.goto 4, 3) := by decide +kernel
theorem dX11_version_32 : decode cX11_version 32 = .ok (.iconst 0, 1) := by decide +kernel
theorem dX11_version_33 : decode cX11_version 33 = .ok (.putfield 101, 3) := by decide +kernel
theorem dX11_version_36 : decode cX11_version 36 = .ok (.aload_n 0, 1) := by decide +kernel
theorem dX11_version_37 : decode cX11_version 37 = .ok (.getfield 101, 3) := by decide +kernel
theorem dX11_version_40 : decode cX11_version 40 = .ok (.ifCond .le 5, 3) := by decide +kernel
theorem dX11_version_43 : decode cX11_version 43 = .ok (.iconst 0, 1) := by decide +kernel
theorem dX11_version_44 : decode cX11_version 44 = .ok (.ireturn, 1) := by decide +kernel
theorem dX11_version_45 : decode cX11_version 45 = .ok (.aload_n 0, 1) := by decide +kernel
theorem dX11_version_46 : decode cX11_version 46 = .ok (.getfield 56, 3) := by decide +kernel
theorem dX11_version_49 : decode cX11_version 49 = .ok (.iload_n 1, 1) := by decide +kernel
theorem dX11_version_50 : decode cX11_version 50 = .ok (.laload, 1) := by decide +kernel
theorem dX11_version_51 : decode cX11_version 51 = .ok (.lconst 0, 1) := by decide +kernel
theorem dX11_version_52 : decode cX11_version 52 = .ok (.lcmp, 1) := by decide +kernel
theorem dX11_version_53 : decode cX11_version 53 = .ok (.ifCond .ne 7, 3) := by decide +kernel
theorem dX11_version_56 : decode cX11_version 56 = .ok (.iconst 1, 1) := by decide +kernel
theorem dX11_version_57 : decode cX11_version 57 = .ok (.goto 4, 3) := by decide +kernel
theorem dX11_version_60 : decode cX11_version 60 = .ok (.iconst 0, 1) := by decide +kernel
theorem dX11_version_61 : decode cX11_version 61 = .ok (.istore_n 3, 1) := by decide +kernel
theorem dX11_version_62 : decode cX11_version 62 = .ok (.iload_n 2, 1) := by decide +kernel
theorem dX11_version_63 : decode cX11_version 63 = .ok (.ifCond .ne 12, 3) := by decide +kernel
theorem dX11_version_66 : decode cX11_version 66 = .ok (.aload_n 0, 1) := by decide +kernel
theorem dX11_version_67 : decode cX11_version 67 = .ok (.getfield 44, 3) := by decide +kernel
theorem dX11_version_70 : decode cX11_version 70 = .ok (.iload_n 1, 1) := by decide +kernel
theorem dX11_version_71 : decode cX11_version 71 = .ok (.iaload, 1) := by decide +kernel
theorem dX11_version_72 : decode cX11_version 72 = .ok (.goto 78, 3) := by decide +kernel
theorem dX11_version_75 : decode cX11_version 75 = .ok (.iload_n 2, 1) := by decide +kernel
theorem dX11_version_76 : decode cX11_version 76 = .ok (.iconst 1, 1) := by decide +kernel
theorem dX11_version_77 : decode cX11_version 77 = .ok (.if_icmp .ne 12, 3) := by decide +kernel
theorem dX11_version_80 : decode cX11_version 80 = .ok (.aload_n 0, 1) := by decide +kernel
theorem dX11_version_81 : decode cX11_version 81 = .ok (.getfield 47, 3) := by decide +kernel
theorem dX11_version_84 : decode cX11_version 84 = .ok (.iload_n 1, 1) := by decide +kernel
theorem dX11_version_85 : decode cX11_version 85 = .ok (.iaload, 1) := by decide +kernel
theorem dX11_version_86 : decode cX11_version 86 = .ok (.goto 64, 3) := by decide +kernel
theorem dX11_version_89 : decode cX11_version 89 = .ok (.iload_n 2, 1) := by decide +kernel
theorem dX11_version_90 : decode cX11_version 90 = .ok (.iconst 2, 1) := by decide +kernel
theorem dX11_version_91 : decode cX11_version 91 = .ok (.if_icmp .ne 12, 3) := by decide +kernel
theorem dX11_version_94 : decode cX11_version 94 = .ok (.aload_n 0, 1) := by decide +kernel
theorem dX11_version_95 : decode cX11_version 95 = .ok (.getfield 50, 3) := by decide +kernel
theorem dX11_version_98 : decode cX11_version 98 = .ok (.iload_n 1, 1) := by decide +kernel
theorem dX11_version_99 : decode cX11_version 99 = .ok (.iaload, 1) := by decide +kernel
theorem dX11_version_100 : decode cX11_version 100 = .ok (.goto 50, 3) := by decide +kernel
theorem dX11_version_103 : decode cX11_version 103 = .ok (.iload_n 2, 1) := by decide +kernel
theorem dX11_version_104 : decode cX11_version 104 = .ok (.iconst 3, 1) := by decide +kernel
theorem dX11_version_105 : decode cX11_version 105 = .ok (.if_icmp .ne 20, 3) := by decide +kernel
theorem dX11_version_108 : decode cX11_version 108 = .ok (.iload_n 3, 1) := by decide +kernel
theorem dX11_version_109 : decode cX11_version 109 = .ok (.ifCond .eq 7, 3) := by decide +kernel
theorem dX11_version_112 : decode cX11_version 112 = .ok (.iconst (-1), 1) := by decide +kernel
theorem dX11_version_113 : decode cX11_version 113 = .ok (.goto 37, 3) := by decide +kernel
theorem dX11_version_116 : decode cX11_version 116 = .ok (.aload_n 0, 1) := by decide +kernel
theorem dX11_version_117 : decode cX11_version 117 = .ok (.getfield 53, 3) := by decide +kernel
theorem dX11_version_120 : decode cX11_version 120 = .ok (.iload_n 1, 1) := by decide +kernel
theorem dX11_version_121 : decode cX11_version 121 = .ok (.iaload, 1) := by decide +kernel
theorem dX11_version_122 : decode cX11_version 122 = .ok (.goto 28, 3) := by decide +kernel
theorem dX11_version_125 : decode cX11_version 125 = .ok (.iload_n 2, 1) := by decide +kernel
theorem dX11_version_126 : decode cX11_version 126 = .ok (.iconst 4, 1) := by decide +kernel
theorem dX11_version_127 : decode cX11_version 127 = .ok (.if_icmp .ne 15, 3) := by decide +kernel
theorem dX11_version_130 : decode cX11_version 130 = .ok (.aload_n 0, 1) := by decide +kernel
theorem dX11_version_131 : decode cX11_version 131 = .ok (.getfield 56, 3) := by decide +kernel
theorem dX11_version_134 : decode cX11_version 134 = .ok (.iload_n 1, 1) := by decide +kernel
theorem dX11_version_135 : decode cX11_version 135 = .ok (.laload, 1) := by decide +kernel
theorem dX11_version_136 : decode cX11_version 136 = .ok (.invokestatic 111, 3) := by decide +kernel
theorem dX11_version_139 : decode cX11_version 139 = .ok (.goto 11, 3) := by decide +kernel
theorem dX11_version_142 : decode cX11_version 142 = .ok (.iconst 1, 1) := by decide +kernel
theorem dX11_version_143 : decode cX11_version 143 = .ok (.aload_n 0, 1) := by decide +kernel
theorem dX11_version_144 : decode cX11_version 144 = .ok (.getfield 59, 3) := by decide +kernel
theorem dX11_version_147 : decode cX11_version 147 = .ok (.iload_n 1, 1) := by decide +kernel
theorem dX11_version_148 : decode cX11_version 148 = .ok (.iaload, 1) := by decide +kernel
theorem dX11_version_149 : decode cX11_version 149 = .ok (.isub, 1) := by decide +kernel
theorem dX11_version_150 : decode cX11_version 150 = .ok (.ireturn, 1) := by decide +kernel
theorem dX11_asOf_0 : decode cX11_asOf 0 = .ok (.aload_n 0, 1) := by decide +kernel
theorem dX11_asOf_1 : decode cX11_asOf 1 = .ok (.iload_n 1, 1) := by decide +kernel
theorem dX11_asOf_2 : decode cX11_asOf 2 = .ok (.invokestatic 139, 3) := by decide +kernel
theorem dX11_asOf_5 : decode cX11_asOf 5 = .ok (.ifCond .ne 7, 3) := by decide +kernel
theorem dX11_asOf_8 : decode cX11_asOf 8 = .ok (.iconst 1, 1) := by decide +kernel
theorem dX11_asOf_9 : decode cX11_asOf 9 = .ok (.goto 20, 3) := by decide +kernel
theorem dX11_asOf_12 : decode cX11_asOf 12 = .ok (.iload_n 2, 1) := by decide +kernel
theorem dX11_asOf_13 : decode cX11_asOf 13 = .ok (.iconst 0, 1) := by decide +kernel
theorem dX11_asOf_14 : decode cX11_asOf 14 = .ok (.aload_n 0, 1) := by decide +kernel
theorem dX11_asOf_15 : decode cX11_asOf 15 = .ok (.getfield 132, 3) := by decide +kernel
theorem dX11_asOf_18 : decode cX11_asOf 18 = .ok (.invokestatic 105, 3) := by decide +kernel
theorem dX11_asOf_21 : decode cX11_asOf 21 = .ok (.ifCond .ne 7, 3) := by decide +kernel
theorem dX11_asOf_24 : decode cX11_asOf 24 = .ok (.iconst 2, 1) := by decide +kernel
theorem dX11_asOf_25 : decode cX11_asOf 25 = .ok (.goto 4, 3) := by decide +kernel
theorem dX11_asOf_28 : decode cX11_asOf 28 = .ok (.iconst 0, 1) := by decide +kernel
theorem dX11_asOf_29 : decode cX11_asOf 29 = .ok (.putfield 101, 3) := by decide +kernel
theorem dX11_asOf_32 : decode cX11_asOf 32 = .ok (.aload_n 0, 1) := by decide +kernel
theorem dX11_asOf_33 : decode cX11_asOf 33 = .ok (.getfield 101, 3) := by decide +kernel
theorem dX11_asOf_36 : decode cX11_asOf 36 = .ok (.ifCond .ne 12, 3) := by decide +kernel
theorem dX11_asOf_39 : decode cX11_asOf 39 = .ok (.aload_n 0, 1) := by decide +kernel
theorem dX11_asOf_40 : decode cX11_asOf 40 = .ok (.iload_n 1, 1) := by decide +kernel
theorem dX11_asOf_41 : decode cX11_asOf 41 = .ok (.iload_n 2, 1) := by decide +kernel
theorem dX11_asOf_42 : decode cX11_asOf 42 = .ok (.invokevirtual 252, 3) := by decide +kernel
theorem dX11_asOf_45 : decode cX11_asOf 45 = .ok (.goto 4, 3) := by decide +kernel
theorem dX11_asOf_48 : decode cX11_asOf 48 = .ok (.iconst 0, 1) := by decide +kernel
theorem dX11_asOf_49 : decode cX11_asOf 49 = .ok (.ireturn, 1) := by decide +kernel
theorem dX11_lockOf_0 : decode cX11_lockOf 0 = .ok (.aload_n 0, 1) := by decide +kernel
theorem dX11_lockOf_1 : decode cX11_lockOf 1 = .ok (.iload_n 1, 1) := by decide +kernel
theorem dX11_lockOf_2 : decode cX11_lockOf 2 = .ok (.invokestatic 139, 3) := by decide +kernel
theorem dX11_lockOf_5 : decode cX11_lockOf 5 = .ok (.ifCond .eq 7, 3) := by decide +kernel
theorem dX11_lockOf_8 : decode cX11_lockOf 8 = .ok (.iconst 0, 1) := by decide +kernel
theorem dX11_lockOf_9 : decode cX11_lockOf 9 = .ok (.goto 4, 3) := by decide +kernel
theorem dX11_lockOf_12 : decode cX11_lockOf 12 = .ok (.iconst 1, 1) := by decide +kernel
theorem dX11_lockOf_13 : decode cX11_lockOf 13 = .ok (.putfield 101, 3) := by decide +kernel
theorem dX11_lockOf_16 : decode cX11_lockOf 16 = .ok (.aload_n 0, 1) := by decide +kernel
theorem dX11_lockOf_17 : decode cX11_lockOf 17 = .ok (.getfield 101, 3) := by decide +kernel
theorem dX11_lockOf_20 : decode cX11_lockOf 20 = .ok (.ifCond .ne 11, 3) := by decide +kernel
theorem dX11_lockOf_23 : decode cX11_lockOf 23 = .ok (.aload_n 0, 1) := by decide +kernel
theorem dX11_lockOf_24 : decode cX11_lockOf 24 = .ok (.iload_n 1, 1) := by decide +kernel
theorem dX11_lockOf_25 : decode cX11_lockOf 25 = .ok (.invokevirtual 161, 3) := by decide +kernel
theorem dX11_lockOf_28 : decode cX11_lockOf 28 = .ok (.goto 4, 3) := by decide +kernel
theorem dX11_lockOf_31 : decode cX11_lockOf 31 = .ok (.iconst 0, 1) := by decide +kernel
theorem dX11_lockOf_32 : decode cX11_lockOf 32 = .ok (.ireturn, 1) := by decide +kernel
theorem dX11_right_0 : decode cX11_right 0 = .ok (.aload_n 0, 1) := by decide +kernel
theorem dX11_right_1 : decode cX11_right 1 = .ok (.iload_n 1, 1) := by decide +kernel
theorem dX11_right_2 : decode cX11_right 2 = .ok (.iconst 0, 1) := by decide +kernel
theorem dX11_right_3 : decode cX11_right 3 = .ok (.iconst 3, 1) := by decide +kernel
theorem dX11_right_4 : decode cX11_right 4 = .ok (.invokestatic 105, 3) := by decide +kernel
theorem dX11_right_7 : decode cX11_right 7 = .ok (.ifCond .eq 14, 3) := by decide +kernel
theorem dX11_right_10 : decode cX11_right 10 = .ok (.iload_n 2, 1) := by decide +kernel
theorem dX11_right_11 : decode cX11_right 11 = .ok (.invokestatic 135, 3) := by decide +kernel
theorem dX11_right_14 : decode cX11_right 14 = .ok (.ifCond .eq 7, 3) := by decide +kernel
theorem dX11_right_17 : decode cX11_right 17 = .ok (.iconst 0, 1) := by decide +kernel
theorem dX11_right_18 : decode cX11_right 18 = .ok (.goto 4, 3) := by decide +kernel
theorem dX11_right_21 : decode cX11_right 21 = .ok (.iconst 1, 1) := by decide +kernel
theorem dX11_right_22 : decode cX11_right 22 = .ok (.putfield 101, 3) := by decide +kernel
theorem dX11_right_25 : decode cX11_right 25 = .ok (.aload_n 0, 1) := by decide +kernel
theorem dX11_right_26 : decode cX11_right 26 = .ok (.getfield 101, 3) := by decide +kernel
theorem dX11_right_29 : decode cX11_right 29 = .ok (.ifCond .ne 12, 3) := by decide +kernel
theorem dX11_right_32 : decode cX11_right 32 = .ok (.aload_n 0, 1) := by decide +kernel
theorem dX11_right_33 : decode cX11_right 33 = .ok (.iload_n 1, 1) := by decide +kernel
theorem dX11_right_34 : decode cX11_right 34 = .ok (.iload_n 2, 1) := by decide +kernel
theorem dX11_right_35 : decode cX11_right 35 = .ok (.invokevirtual 165, 3) := by decide +kernel
theorem dX11_right_38 : decode cX11_right 38 = .ok (.goto 4, 3) := by decide +kernel
theorem dX11_right_41 : decode cX11_right 41 = .ok (.iconst 0, 1) := by decide +kernel
theorem dX11_right_42 : decode cX11_right 42 = .ok (.ireturn, 1) := by decide +kernel
theorem dX11_count_0 : decode cX11_count 0 = .ok (.aload_n 0, 1) := by decide +kernel
theorem dX11_count_1 : decode cX11_count 1 = .ok (.iload_n 1, 1) := by decide +kernel
theorem dX11_count_2 : decode cX11_count 2 = .ok (.iconst 0, 1) := by decide +kernel
theorem dX11_count_3 : decode cX11_count 3 = .ok (.bipush 7, 2) := by decide +kernel
theorem dX11_count_5 : decode cX11_count 5 = .ok (.invokestatic 105, 3) := by decide +kernel
theorem dX11_count_8 : decode cX11_count 8 = .ok (.ifCond .eq 7, 3) := by decide +kernel
theorem dX11_count_11 : decode cX11_count 11 = .ok (.iconst 0, 1) := by decide +kernel
theorem dX11_count_12 : decode cX11_count 12 = .ok (.goto 4, 3) := by decide +kernel
theorem dX11_count_15 : decode cX11_count 15 = .ok (.iconst 1, 1) := by decide +kernel
theorem dX11_count_16 : decode cX11_count 16 = .ok (.putfield 101, 3) := by decide +kernel
theorem dX11_count_19 : decode cX11_count 19 = .ok (.iconst 0, 1) := by decide +kernel
theorem dX11_count_20 : decode cX11_count 20 = .ok (.istore_n 2, 1) := by decide +kernel
theorem dX11_count_21 : decode cX11_count 21 = .ok (.iconst 0, 1) := by decide +kernel
theorem dX11_count_22 : decode cX11_count 22 = .ok (.istore_n 3, 1) := by decide +kernel
theorem dX11_count_23 : decode cX11_count 23 = .ok (.iconst 0, 1) := by decide +kernel
theorem dX11_count_24 : decode cX11_count 24 = .ok (.istore 4, 2) := by decide +kernel
theorem dX11_count_26 : decode cX11_count 26 = .ok (.iconst 0, 1) := by decide +kernel
theorem dX11_count_27 : decode cX11_count 27 = .ok (.istore 5, 2) := by decide +kernel
theorem dX11_count_29 : decode cX11_count 29 = .ok (.iload 5, 2) := by decide +kernel
theorem dX11_count_31 : decode cX11_count 31 = .ok (.sipush 20000, 3) := by decide +kernel
theorem dX11_count_34 : decode cX11_count 34 = .ok (.if_icmp .ge 56, 3) := by decide +kernel
theorem dX11_count_37 : decode cX11_count 37 = .ok (.aload_n 0, 1) := by decide +kernel
theorem dX11_count_38 : decode cX11_count 38 = .ok (.getfield 101, 3) := by decide +kernel
theorem dX11_count_41 : decode cX11_count 41 = .ok (.ifCond .ne 49, 3) := by decide +kernel
theorem dX11_count_44 : decode cX11_count 44 = .ok (.iload_n 2, 1) := by decide +kernel
theorem dX11_count_45 : decode cX11_count 45 = .ok (.aload_n 0, 1) := by decide +kernel
theorem dX11_count_46 : decode cX11_count 46 = .ok (.getfield 83, 3) := by decide +kernel
theorem dX11_count_49 : decode cX11_count 49 = .ok (.iload 5, 2) := by decide +kernel
theorem dX11_count_51 : decode cX11_count 51 = .ok (.iaload, 1) := by decide +kernel
theorem dX11_count_52 : decode cX11_count 52 = .ok (.ifCond .le 7, 3) := by decide +kernel
theorem dX11_count_55 : decode cX11_count 55 = .ok (.iconst 1, 1) := by decide +kernel
theorem dX11_count_56 : decode cX11_count 56 = .ok (.goto 4, 3) := by decide +kernel
theorem dX11_count_59 : decode cX11_count 59 = .ok (.iconst 0, 1) := by decide +kernel
theorem dX11_count_60 : decode cX11_count 60 = .ok (.iadd, 1) := by decide +kernel
theorem dX11_count_61 : decode cX11_count 61 = .ok (.istore_n 2, 1) := by decide +kernel
theorem dX11_count_62 : decode cX11_count 62 = .ok (.iload_n 3, 1) := by decide +kernel
theorem dX11_count_63 : decode cX11_count 63 = .ok (.aload_n 0, 1) := by decide +kernel
theorem dX11_count_64 : decode cX11_count 64 = .ok (.getfield 86, 3) := by decide +kernel
theorem dX11_count_67 : decode cX11_count 67 = .ok (.iload 5, 2) := by decide +kernel
theorem dX11_count_69 : decode cX11_count 69 = .ok (.iaload, 1) := by decide +kernel
theorem dX11_count_70 : decode cX11_count 70 = .ok (.iadd, 1) := by decide +kernel
theorem dX11_count_71 : decode cX11_count 71 = .ok (.istore_n 3, 1) := by decide +kernel
theorem dX11_count_72 : decode cX11_count 72 = .ok (.iload 4, 2) := by decide +kernel
theorem dX11_count_74 : decode cX11_count 74 = .ok (.aload_n 0, 1) := by decide +kernel
theorem dX11_count_75 : decode cX11_count 75 = .ok (.getfield 89, 3) := by decide +kernel
theorem dX11_count_78 : decode cX11_count 78 = .ok (.iload 5, 2) := by decide +kernel
theorem dX11_count_80 : decode cX11_count 80 = .ok (.iaload, 1) := by decide +kernel
theorem dX11_count_81 : decode cX11_count 81 = .ok (.iadd, 1) := by decide +kernel
theorem dX11_count_82 : decode cX11_count 82 = .ok (.istore 4, 2) := by decide +kernel
theorem dX11_count_84 : decode cX11_count 84 = .ok (.iinc 5 1, 3) := by decide +kernel
theorem dX11_count_87 : decode cX11_count 87 = .ok (.goto (-58), 3) := by decide +kernel
theorem dX11_count_90 : decode cX11_count 90 = .ok (.iconst 0, 1) := by decide +kernel
theorem dX11_count_91 : decode cX11_count 91 = .ok (.istore 5, 2) := by decide +kernel
theorem dX11_count_93 : decode cX11_count 93 = .ok (.aload_n 0, 1) := by decide +kernel
theorem dX11_count_94 : decode cX11_count 94 = .ok (.getfield 258, 3) := by decide +kernel
theorem dX11_count_97 : decode cX11_count 97 = .ok (.istore 6, 2) := by decide +kernel
theorem dX11_count_99 : decode cX11_count 99 = .ok (.iload 6, 2) := by decide +kernel
theorem dX11_count_101 : decode cX11_count 101 = .ok (.aload_n 0, 1) := by decide +kernel
theorem dX11_count_102 : decode cX11_count 102 = .ok (.getfield 155, 3) := by decide +kernel
theorem dX11_count_105 : decode cX11_count 105 = .ok (.if_icmp .ge 23, 3) := by decide +kernel
theorem dX11_count_108 : decode cX11_count 108 = .ok (.iload 5, 2) := by decide +kernel
theorem dX11_count_110 : decode cX11_count 110 = .ok (.iconst 1, 1) := by decide +kernel
theorem dX11_count_111 : decode cX11_count 111 = .ok (.aload_n 0, 1) := by decide +kernel
theorem dX11_count_112 : decode cX11_count 112 = .ok (.getfield 59, 3) := by decide +kernel
theorem dX11_count_115 : decode cX11_count 115 = .ok (.iload 6, 2) := by decide +kernel
theorem dX11_count_117 : decode cX11_count 117 = .ok (.iaload, 1) := by decide +kernel
theorem dX11_count_118 : decode cX11_count 118 = .ok (.isub, 1) := by decide +kernel
theorem dX11_count_119 : decode cX11_count 119 = .ok (.iadd, 1) := by decide +kernel
theorem dX11_count_120 : decode cX11_count 120 = .ok (.istore 5, 2) := by decide +kernel
theorem dX11_count_122 : decode cX11_count 122 = .ok (.iinc 6 1, 3) := by decide +kernel
theorem dX11_count_125 : decode cX11_count 125 = .ok (.goto (-26), 3) := by decide +kernel
theorem dX11_count_128 : decode cX11_count 128 = .ok (.iload_n 1, 1) := by decide +kernel
theorem dX11_count_129 : decode cX11_count 129 = .ok (.ifCond .ne 7, 3) := by decide +kernel
theorem dX11_count_132 : decode cX11_count 132 = .ok (.iload_n 2, 1) := by decide +kernel
theorem dX11_count_133 : decode cX11_count 133 = .ok (.goto 26, 3) := by decide +kernel
theorem dX11_count_136 : decode cX11_count 136 = .ok (.iload_n 1, 1) := by decide +kernel
theorem dX11_count_137 : decode cX11_count 137 = .ok (.iconst 1, 1) := by decide +kernel
theorem dX11_count_138 : decode cX11_count 138 = .ok (.if_icmp .ne 10, 3) := by decide +kernel
theorem dX11_count_141 : decode cX11_count 141 = .ok (.aload_n 0, 1) := by decide +kernel
theorem dX11_count_142 : decode cX11_count 142 = .ok (.getfield 196, 3) := by decide +kernel
theorem dX11_count_145 : decode cX11_count 145 = .ok (.goto 14, 3) := by decide +kernel
theorem dX11_count_148 : decode cX11_count 148 = .ok (.iload_n 1, 1) := by decide +kernel
theorem dX11_count_149 : decode cX11_count 149 = .ok (.iconst 2, 1) := by decide +kernel
theorem dX11_count_150 : decode cX11_count 150 = .ok (.if_icmp .ne 7, 3) := by decide +kernel
theorem dX11_count_153 : decode cX11_count 153 = .ok (.iload_n 3, 1) := by decide +kernel
theorem dX11_count_154 : decode cX11_count 154 = .ok (.goto 5, 3) := by decide +kernel
theorem dX11_count_157 : decode cX11_count 157 = .ok (.iload 4, 2) := by decide +kernel
theorem dX11_count_159 : decode cX11_count 159 = .ok (.istore 6, 2) := by decide +kernel
theorem dX11_count_161 : decode cX11_count 161 = .ok (.iload_n 1, 1) := by decide +kernel
theorem dX11_count_162 : decode cX11_count 162 = .ok (.iconst 4, 1) := by decide +kernel
theorem dX11_count_163 : decode cX11_count 163 = .ok (.if_icmp .ne 8, 3) := by decide +kernel
theorem dX11_count_166 : decode cX11_count 166 = .ok (.iload 5, 2) := by decide +kernel
theorem dX11_count_168 : decode cX11_count 168 = .ok (.goto 32, 3) := by decide +kernel
theorem dX11_count_171 : decode cX11_count 171 = .ok (.iload_n 1, 1) := by decide +kernel
theorem dX11_count_172 : decode cX11_count 172 = .ok (.iconst 5, 1) := by decide +kernel
theorem dX11_count_173 : decode cX11_count 173 = .ok (.if_icmp .ne 10, 3) := by decide +kernel
theorem dX11_count_176 : decode cX11_count 176 = .ok (.aload_n 0, 1) := by decide +kernel
theorem dX11_count_177 : decode cX11_count 177 = .ok (.getfield 190, 3) := by decide +kernel
theorem dX11_count_180 : decode cX11_count 180 = .ok (.goto 20, 3) := by decide +kernel
theorem dX11_count_183 : decode cX11_count 183 = .ok (.iload_n 1, 1) := by decide +kernel
theorem dX11_count_184 : decode cX11_count 184 = .ok (.bipush 6, 2) := by decide +kernel
theorem dX11_count_186 : decode cX11_count 186 = .ok (.if_icmp .ne 10, 3) := by decide +kernel
theorem dX11_count_189 : decode cX11_count 189 = .ok (.aload_n 0, 1) := by decide +kernel
theorem dX11_count_190 : decode cX11_count 190 = .ok (.getfield 173, 3) := by decide +kernel
theorem dX11_count_193 : decode cX11_count 193 = .ok (.goto 7, 3) := by decide +kernel
theorem dX11_count_196 : decode cX11_count 196 = .ok (.aload_n 0, 1) := by decide +kernel
theorem dX11_count_197 : decode cX11_count 197 = .ok (.getfield 199, 3) := by decide +kernel
theorem dX11_count_200 : decode cX11_count 200 = .ok (.istore 7, 2) := by decide +kernel
theorem dX11_count_202 : decode cX11_count 202 = .ok (.aload_n 0, 1) := by decide +kernel
theorem dX11_count_203 : decode cX11_count 203 = .ok (.getfield 101, 3) := by decide +kernel
theorem dX11_count_206 : decode cX11_count 206 = .ok (.ifCond .le 7, 3) := by decide +kernel
theorem dX11_count_209 : decode cX11_count 209 = .ok (.iconst 0, 1) := by decide +kernel
theorem dX11_count_210 : decode cX11_count 210 = .ok (.goto 15, 3) := by decide +kernel
theorem dX11_count_213 : decode cX11_count 213 = .ok (.iload_n 1, 1) := by decide +kernel
theorem dX11_count_214 : decode cX11_count 214 = .ok (.iconst 4, 1) := by decide +kernel
theorem dX11_count_215 : decode cX11_count 215 = .ok (.if_icmp .ge 8, 3) := by decide +kernel
theorem dX11_count_218 : decode cX11_count 218 = .ok (.iload 6, 2) := by decide +kernel
theorem dX11_count_220 : decode cX11_count 220 = .ok (.goto 5, 3) := by decide +kernel
theorem dX11_count_223 : decode cX11_count 223 = .ok (.iload 7, 2) := by decide +kernel
theorem dX11_count_225 : decode cX11_count 225 = .ok (.ireturn, 1) := by decide +kernel
theorem dX11_lost_0 : decode cX11_lost 0 = .ok (.aload_n 0, 1) := by decide +kernel
theorem dX11_lost_1 : decode cX11_lost 1 = .ok (.iconst 0, 1) := by decide +kernel
theorem dX11_lost_2 : decode cX11_lost 2 = .ok (.putfield 101, 3) := by decide +kernel
theorem dX11_lost_5 : decode cX11_lost 5 = .ok (.iconst 0, 1) := by decide +kernel
theorem dX11_lost_6 : decode cX11_lost 6 = .ok (.istore_n 1, 1) := by decide +kernel
theorem dX11_lost_7 : decode cX11_lost 7 = .ok (.iconst 0, 1) := by decide +kernel
theorem dX11_lost_8 : decode cX11_lost 8 = .ok (.istore_n 2, 1) := by decide +kernel
theorem dX11_lost_9 : decode cX11_lost 9 = .ok (.iload_n 2, 1) := by decide +kernel
theorem dX11_lost_10 : decode cX11_lost 10 = .ok (.aload_n 0, 1) := by decide +kernel
theorem dX11_lost_11 : decode cX11_lost 11 = .ok (.getfield 155, 3) := by decide +kernel
theorem dX11_lost_14 : decode cX11_lost 14 = .ok (.if_icmp .ge 134, 3) := by decide +kernel
theorem dX11_lost_17 : decode cX11_lost 17 = .ok (.aload_n 0, 1) := by decide +kernel
theorem dX11_lost_18 : decode cX11_lost 18 = .ok (.getfield 59, 3) := by decide +kernel
theorem dX11_lost_21 : decode cX11_lost 21 = .ok (.iload_n 2, 1) := by decide +kernel
theorem dX11_lost_22 : decode cX11_lost 22 = .ok (.iaload, 1) := by decide +kernel
theorem dX11_lost_23 : decode cX11_lost 23 = .ok (.iconst 1, 1) := by decide +kernel
theorem dX11_lost_24 : decode cX11_lost 24 = .ok (.if_icmp .ne 7, 3) := by decide +kernel
theorem dX11_lost_27 : decode cX11_lost 27 = .ok (.iconst 0, 1) := by decide +kernel
theorem dX11_lost_28 : decode cX11_lost 28 = .ok (.goto 13, 3) := by decide +kernel
theorem dX11_lost_31 : decode cX11_lost 31 = .ok (.aload_n 0, 1) := by decide +kernel
theorem dX11_lost_32 : decode cX11_lost 32 = .ok (.aload_n 0, 1) := by decide +kernel
theorem dX11_lost_33 : decode cX11_lost 33 = .ok (.getfield 56, 3) := by decide +kernel
theorem dX11_lost_36 : decode cX11_lost 36 = .ok (.iload_n 2, 1) := by decide +kernel
theorem dX11_lost_37 : decode cX11_lost 37 = .ok (.laload, 1) := by decide +kernel
theorem dX11_lost_38 : decode cX11_lost 38 = .ok (.invokevirtual 202, 3) := by decide +kernel
theorem dX11_lost_41 : decode cX11_lost 41 = .ok (.istore_n 3, 1) := by decide +kernel
theorem dX11_lost_42 : decode cX11_lost 42 = .ok (.iconst 0, 1) := by decide +kernel
theorem dX11_lost_43 : decode cX11_lost 43 = .ok (.istore 4, 2) := by decide +kernel
theorem dX11_lost_45 : decode cX11_lost 45 = .ok (.iconst 0, 1) := by decide +kernel
theorem dX11_lost_46 : decode cX11_lost 46 = .ok (.istore 5, 2) := by decide +kernel
theorem dX11_lost_48 : decode cX11_lost 48 = .ok (.iload 5, 2) := by decide +kernel
theorem dX11_lost_50 : decode cX11_lost 50 = .ok (.iload_n 3, 1) := by decide +kernel
theorem dX11_lost_51 : decode cX11_lost 51 = .ok (.if_icmp .ge 78, 3) := by decide +kernel
theorem dX11_lost_54 : decode cX11_lost 54 = .ok (.aload_n 0, 1) := by decide +kernel
theorem dX11_lost_55 : decode cX11_lost 55 = .ok (.getfield 83, 3) := by decide +kernel
theorem dX11_lost_58 : decode cX11_lost 58 = .ok (.aload_n 0, 1) := by decide +kernel
theorem dX11_lost_59 : decode cX11_lost 59 = .ok (.getfield 95, 3) := by decide +kernel
theorem dX11_lost_62 : decode cX11_lost 62 = .ok (.iload 5, 2) := by decide +kernel
theorem dX11_lost_64 : decode cX11_lost 64 = .ok (.iaload, 1) := by decide +kernel
theorem dX11_lost_65 : decode cX11_lost 65 = .ok (.iaload, 1) := by decide +kernel
theorem dX11_lost_66 : decode cX11_lost 66 = .ok (.ifCond .le 22, 3) := by decide +kernel
theorem dX11_lost_69 : decode cX11_lost 69 = .ok (.aload_n 0, 1) := by decide +kernel
theorem dX11_lost_70 : decode cX11_lost 70 = .ok (.getfield 86, 3) := by decide +kernel
theorem dX11_lost_73 : decode cX11_lost 73 = .ok (.aload_n 0, 1) := by decide +kernel
theorem dX11_lost_74 : decode cX11_lost 74 = .ok (.getfield 95, 3) := by decide +kernel
theorem dX11_lost_77 : decode cX11_lost 77 = .ok (.iload 5, 2) := by decide +kernel
theorem dX11_lost_79 : decode cX11_lost 79 = .ok (.iaload, 1) := by decide +kernel
theorem dX11_lost_80 : decode cX11_lost 80 = .ok (.iaload, 1) := by decide +kernel
theorem dX11_lost_81 : decode cX11_lost 81 = .ok (.ifCond .ne 7, 3) := by decide +kernel
theorem dX11_lost_84 : decode cX11_lost 84 = .ok (.iconst 1, 1) := by decide +kernel
theorem dX11_lost_85 : decode cX11_lost 85 = .ok (.goto 4, 3) := by decide +kernel
theorem dX11_lost_88 : decode cX11_lost 88 = .ok (.iconst 0, 1) := by decide +kernel
theorem dX11_lost_89 : decode cX11_lost 89 = .ok (.istore 6, 2) := by decide +kernel
theorem dX11_lost_91 : decode cX11_lost 91 = .ok (.iload 4, 2) := by decide +kernel
theorem dX11_lost_93 : decode cX11_lost 93 = .ok (.ifCond .ne 23, 3) := by decide +kernel
theorem dX11_lost_96 : decode cX11_lost 96 = .ok (.iload 6, 2) := by decide +kernel
theorem dX11_lost_98 : decode cX11_lost 98 = .ok (.ifCond .ne 22, 3) := by decide +kernel
theorem dX11_lost_101 : decode cX11_lost 101 = .ok (.aload_n 0, 1) := by decide +kernel
theorem dX11_lost_102 : decode cX11_lost 102 = .ok (.getfield 89, 3) := by decide +kernel
theorem dX11_lost_105 : decode cX11_lost 105 = .ok (.aload_n 0, 1) := by decide +kernel
theorem dX11_lost_106 : decode cX11_lost 106 = .ok (.getfield 95, 3) := by decide +kernel
theorem dX11_lost_109 : decode cX11_lost 109 = .ok (.iload 5, 2) := by decide +kernel
theorem dX11_lost_111 : decode cX11_lost 111 = .ok (.iaload, 1) := by decide +kernel
theorem dX11_lost_112 : decode cX11_lost 112 = .ok (.iaload, 1) := by decide +kernel
theorem dX11_lost_113 : decode cX11_lost 113 = .ok (.ifCond .ne 7, 3) := by decide +kernel
theorem dX11_lost_116 : decode cX11_lost 116 = .ok (.iconst 1, 1) := by decide +kernel
theorem dX11_lost_117 : decode cX11_lost 117 = .ok (.goto 4, 3) := by decide +kernel
theorem dX11_lost_120 : decode cX11_lost 120 = .ok (.iconst 0, 1) := by decide +kernel
theorem dX11_lost_121 : decode cX11_lost 121 = .ok (.istore 4, 2) := by decide +kernel
theorem dX11_lost_123 : decode cX11_lost 123 = .ok (.iinc 5 1, 3) := by decide +kernel
theorem dX11_lost_126 : decode cX11_lost 126 = .ok (.goto (-78), 3) := by decide +kernel
theorem dX11_lost_129 : decode cX11_lost 129 = .ok (.iload_n 1, 1) := by decide +kernel
theorem dX11_lost_130 : decode cX11_lost 130 = .ok (.iload 4, 2) := by decide +kernel
theorem dX11_lost_132 : decode cX11_lost 132 = .ok (.ifCond .eq 7, 3) := by decide +kernel
theorem dX11_lost_135 : decode cX11_lost 135 = .ok (.iconst 1, 1) := by decide +kernel
theorem dX11_lost_136 : decode cX11_lost 136 = .ok (.goto 4, 3) := by decide +kernel
theorem dX11_lost_139 : decode cX11_lost 139 = .ok (.iconst 0, 1) := by decide +kernel
theorem dX11_lost_140 : decode cX11_lost 140 = .ok (.iadd, 1) := by decide +kernel
theorem dX11_lost_141 : decode cX11_lost 141 = .ok (.istore_n 1, 1) := by decide +kernel
theorem dX11_lost_142 : decode cX11_lost 142 = .ok (.iinc 2 1, 3) := by decide +kernel
theorem dX11_lost_145 : decode cX11_lost 145 = .ok (.goto (-136), 3) := by decide +kernel
theorem dX11_lost_148 : decode cX11_lost 148 = .ok (.iload_n 1, 1) := by decide +kernel
theorem dX11_lost_149 : decode cX11_lost 149 = .ok (.ireturn, 1) := by decide +kernel
