theorem dX7_member_6 : decode cX7_member 6 = .ok (.invokevirtual 130, 3) := by decide +kernel
theorem dX7_member_9 : decode cX7_member 9 = .ok (.istore 4, 2) := by decide +kernel
theorem dX7_member_11 : decode cX7_member 11 = .ok (.iload 4, 2) := by decide +kernel
theorem dX7_member_13 : decode cX7_member 13 = .ok (.invokestatic 162, 3) := by decide +kernel
theorem dX7_member_16 : decode cX7_member 16 = .ok (.ifCond .ne 37, 3) := by decide +kernel
theorem dX7_member_19 : decode cX7_member 19 = .ok (.iload_n 2, 1) := by decide +kernel
theorem dX7_member_20 : decode cX7_member 20 = .ok (.ifCond .eq 23, 3) := by decide +kernel
theorem dX7_member_23 : decode cX7_member 23 = .ok (.iload 4, 2) := by decide +kernel
theorem dX7_member_25 : decode cX7_member 25 = .ok (.sipush 1024, 3) := by decide +kernel
theorem dX7_member_28 : decode cX7_member 28 = .ok (.iand, 1) := by decide +kernel
theorem dX7_member_29 : decode cX7_member 29 = .ok (.ifCond .eq 28, 3) := by decide +kernel
theorem dX7_member_32 : decode cX7_member 32 = .ok (.iload 4, 2) := by decide +kernel
theorem dX7_member_34 : decode cX7_member 34 = .ok (.bipush 26, 2) := by decide +kernel
theorem dX7_member_36 : decode cX7_member 36 = .ok (.iand, 1) := by decide +kernel
theorem dX7_member_37 : decode cX7_member 37 = .ok (.ifCond .eq 20, 3) := by decide +kernel
theorem dX7_member_40 : decode cX7_member 40 = .ok (.goto 13, 3) := by decide +kernel
theorem dX7_member_43 : decode cX7_member 43 = .ok (.iload 4, 2) := by decide +kernel
theorem dX7_member_45 : decode cX7_member 45 = .ok (.bipush 80, 2) := by decide +kernel
theorem dX7_member_47 : decode cX7_member 47 = .ok (.iand, 1) := by decide +kernel
theorem dX7_member_48 : decode cX7_member 48 = .ok (.bipush 80, 2) := by decide +kernel
theorem dX7_member_50 : decode cX7_member 50 = .ok (.if_icmp .ne 7, 3) := by decide +kernel
theorem dX7_member_53 : decode cX7_member 53 = .ok (.iconst 1, 1) := by decide +kernel
theorem dX7_member_54 : decode cX7_member 54 = .ok (.goto 4, 3) := by decide +kernel
theorem dX7_member_57 : decode cX7_member 57 = .ok (.iconst 0, 1) := by decide +kernel
theorem dX7_member_58 : decode cX7_member 58 = .ok (.istore 5, 2) := by decide +kernel
theorem dX7_member_60 : decode cX7_member 60 = .ok (.aload_n 0, 1) := by decide +kernel
theorem dX7_member_61 : decode cX7_member 61 = .ok (.getfield 71, 3) := by decide +kernel
theorem dX7_member_64 : decode cX7_member 64 = .ok (.ifCond .ne 16, 3) := by decide +kernel
theorem dX7_member_67 : decode cX7_member 67 = .ok (.iload 5, 2) := by decide +kernel
theorem dX7_member_69 : decode cX7_member 69 = .ok (.ifCond .eq 11, 3) := by decide +kernel
theorem dX7_member_72 : decode cX7_member 72 = .ok (.aload_n 0, 1) := by decide +kernel
theorem dX7_member_73 : decode cX7_member 73 = .ok (.bipush 14, 2) := by decide +kernel
theorem dX7_member_75 : decode cX7_member 75 = .ok (.iload_n 3, 1) := by decide +kernel
theorem dX7_member_76 : decode cX7_member 76 = .ok (.invokevirtual 89, 3) := by decide +kernel
theorem dX7_member_79 : decode cX7_member 79 = .ok (.pop, 1) := by decide +kernel
theorem dX7_member_80 : decode cX7_member 80 = .ok (.aload_n 0, 1) := by decide +kernel
theorem dX7_member_81 : decode cX7_member 81 = .ok (.getfield 77, 3) := by decide +kernel
theorem dX7_member_84 : decode cX7_member 84 = .ok (.istore 6, 2) := by decide +kernel
theorem dX7_member_86 : decode cX7_member 86 = .ok (.aload_n 0, 1) := by decide +kernel
theorem dX7_member_87 : decode cX7_member 87 = .ok (.invokevirtual 130, 3) := by decide +kernel
theorem dX7_member_90 : decode cX7_member 90 = .ok (.istore 7, 2) := by decide +kernel
theorem dX7_member_92 : decode cX7_member 92 = .ok (.aload_n 0, 1) := by decide +kernel
theorem dX7_member_93 : decode cX7_member 93 = .ok (.getfield 71, 3) := by decide +kernel
theorem dX7_member_96 : decode cX7_member 96 = .ok (.ifCond .ne 47, 3) := by decide +kernel
theorem dX7_member_99 : decode cX7_member 99 = .ok (.aload_n 0, 1) := by decide +kernel
theorem dX7_member_100 : decode cX7_member 100 = .ok (.iload 7, 2) := by decide +kernel
theorem dX7_member_102 : decode cX7_member 102 = .ok (.iconst 1, 1) := by decide +kernel
theorem dX7_member_103 : decode cX7_member 103 = .ok (.invokevirtual 143, 3) := by decide +kernel
theorem dX7_member_106 : decode cX7_member 106 = .ok (.ifCond .eq 28, 3) := by decide +kernel
theorem dX7_member_109 : decode cX7_member 109 = .ok (.iload_n 2, 1) := by decide +kernel
theorem dX7_member_110 : decode cX7_member 110 = .ok (.ifCond .eq 15, 3) := by decide +kernel
theorem dX7_member_113 : decode cX7_member 113 = .ok (.aload_n 0, 1) := by decide +kernel
theorem dX7_member_114 : decode cX7_member 114 = .ok (.iload 7, 2) := by decide +kernel
theorem dX7_member_116 : decode cX7_member 116 = .ok (.invokevirtual 148, 3) := by decide +kernel
theorem dX7_member_119 : decode cX7_member 119 = .ok (.ifCond .eq 15, 3) := by decide +kernel
theorem dX7_member_122 : decode cX7_member 122 = .ok (.goto 21, 3) := by decide +kernel
theorem dX7_member_125 : decode cX7_member 125 = .ok (.aload_n 0, 1) := by decide +kernel
theorem dX7_member_126 : decode cX7_member 126 = .ok (.iload 7, 2) := by decide +kernel
theorem dX7_member_128 : decode cX7_member 128 = .ok (.invokevirtual 109, 3) := by decide +kernel
theorem dX7_member_131 : decode cX7_member 131 = .ok (.ifCond .ne 12, 3) := by decide +kernel
theorem dX7_member_134 : decode cX7_member 134 = .ok (.aload_n 0, 1) := by decide +kernel
theorem dX7_member_135 : decode cX7_member 135 = .ok (.bipush 15, 2) := by decide +kernel
theorem dX7_member_137 : decode cX7_member 137 = .ok (.iload 6, 2) := by decide +kernel
theorem dX7_member_139 : decode cX7_member 139 = .ok (.invokevirtual 89, 3) := by decide +kernel
theorem dX7_member_142 : decode cX7_member 142 = .ok (.pop, 1) := by decide +kernel
theorem dX7_member_143 : decode cX7_member 143 = .ok (.aload_n 0, 1) := by decide +kernel
theorem dX7_member_144 : decode cX7_member 144 = .ok (.getfield 77, 3) := by decide +kernel
theorem dX7_member_147 : decode cX7_member 147 = .ok (.istore 8, 2) := by decide +kernel
theorem dX7_member_149 : decode cX7_member 149 = .ok (.aload_n 0, 1) := by decide +kernel
theorem dX7_member_150 : decode cX7_member 150 = .ok (.invokevirtual 130, 3) := by decide +kernel
theorem dX7_member_153 : decode cX7_member 153 = .ok (.istore 9, 2) := by decide +kernel
theorem dX7_member_155 : decode cX7_member 155 = .ok (.aload_n 0, 1) := by decide +kernel
theorem dX7_member_156 : decode cX7_member 156 = .ok (.getfield 71, 3) := by decide +kernel
theorem dX7_member_159 : decode cX7_member 159 = .ok (.ifCond .ne 47, 3) := by decide +kernel
theorem dX7_member_162 : decode cX7_member 162 = .ok (.aload_n 0, 1) := by decide +kernel
theorem dX7_member_163 : decode cX7_member 163 = .ok (.iload 9, 2) := by decide +kernel
theorem dX7_member_165 : decode cX7_member 165 = .ok (.iconst 1, 1) := by decide +kernel
theorem dX7_member_166 : decode cX7_member 166 = .ok (.invokevirtual 143, 3) := by decide +kernel
theorem dX7_member_169 : decode cX7_member 169 = .ok (.ifCond .eq 28, 3) := by decide +kernel
theorem dX7_member_172 : decode cX7_member 172 = .ok (.iload_n 2, 1) := by decide +kernel
theorem dX7_member_173 : decode cX7_member 173 = .ok (.ifCond .eq 15, 3) := by decide +kernel
theorem dX7_member_176 : decode cX7_member 176 = .ok (.aload_n 0, 1) := by decide +kernel
theorem dX7_member_177 : decode cX7_member 177 = .ok (.iload 9, 2) := by decide +kernel
theorem dX7_member_179 : decode cX7_member 179 = .ok (.invokevirtual 151, 3) := by decide +kernel
theorem dX7_member_182 : decode cX7_member 182 = .ok (.ifCond .eq 15, 3) := by decide +kernel
theorem dX7_member_185 : decode cX7_member 185 = .ok (.goto 21, 3) := by decide +kernel
theorem dX7_member_188 : decode cX7_member 188 = .ok (.aload_n 0, 1) := by decide +kernel
theorem dX7_member_189 : decode cX7_member 189 = .ok (.iload 9, 2) := by decide +kernel
theorem dX7_member_191 : decode cX7_member 191 = .ok (.invokevirtual 165, 3) := by decide +kernel
theorem dX7_member_194 : decode cX7_member 194 = .ok (.ifCond .ne 12, 3) := by decide +kernel
theorem dX7_member_197 : decode cX7_member 197 = .ok (.aload_n 0, 1) := by decide +kernel
theorem dX7_member_198 : decode cX7_member 198 = .ok (.bipush 16, 2) := by decide +kernel
theorem dX7_member_200 : decode cX7_member 200 = .ok (.iload 8, 2) := by decide +kernel
theorem dX7_member_202 : decode cX7_member 202 = .ok (.invokevirtual 89, 3) := by decide +kernel
theorem dX7_member_205 : decode cX7_member 205 = .ok (.pop, 1) := by decide +kernel
theorem dX7_member_206 : decode cX7_member 206 = .ok (.aload_n 0, 1) := by decide +kernel
theorem dX7_member_207 : decode cX7_member 207 = .ok (.getfield 71, 3) := by decide +kernel
theorem dX7_member_210 : decode cX7_member 210 = .ok (.ifCond .eq 5, 3) := by decide +kernel
theorem dX7_member_213 : decode cX7_member 213 = .ok (.iload_n 3, 1) := by decide +kernel
theorem dX7_member_214 : decode cX7_member 214 = .ok (.ireturn, 1) := by decide +kernel
theorem dX7_member_215 : decode cX7_member 215 = .ok (.iload_n 2, 1) := by decide +kernel
theorem dX7_member_216 : decode cX7_member 216 = .ok (.ifCond .ne 34, 3) := by decide +kernel
theorem dX7_member_219 : decode cX7_member 219 = .ok (.aload_n 0, 1) := by decide +kernel
theorem dX7_member_220 : decode cX7_member 220 = .ok (.iload 9, 2) := by decide +kernel
theorem dX7_member_222 : decode cX7_member 222 = .ok (.iconst 0, 1) := by decide +kernel
theorem dX7_member_223 : decode cX7_member 223 = .ok (.invokevirtual 113, 3) := by decide +kernel
theorem dX7_member_226 : decode cX7_member 226 = .ok (.aload_n 0, 1) := by decide +kernel
theorem dX7_member_227 : decode cX7_member 227 = .ok (.getfield 16, 3) := by decide +kernel
theorem dX7_member_230 : decode cX7_member 230 = .ok (.bipush 6, 2) := by decide +kernel
theorem dX7_member_232 : decode cX7_member 232 = .ok (.iaload, 1) := by decide +kernel
theorem dX7_member_233 : decode cX7_member 233 = .ok (.if_icmp .le 17, 3) := by decide +kernel
theorem dX7_member_236 : decode cX7_member 236 = .ok (.aload_n 0, 1) := by decide +kernel
theorem dX7_member_237 : decode cX7_member 237 = .ok (.getfield 16, 3) := by decide +kernel
theorem dX7_member_240 : decode cX7_member 240 = .ok (.bipush 6, 2) := by decide +kernel
theorem dX7_member_242 : decode cX7_member 242 = .ok (.aload_n 0, 1) := by decide +kernel
theorem dX7_member_243 : decode cX7_member 243 = .ok (.iload 9, 2) := by decide +kernel
theorem dX7_member_245 : decode cX7_member 245 = .ok (.iconst 0, 1) := by decide +kernel
theorem dX7_member_246 : decode cX7_member 246 = .ok (.invokevirtual 113, 3) := by decide +kernel
theorem dX7_member_249 : decode cX7_member 249 = .ok (.iastore, 1) := by decide +kernel
theorem dX7_member_250 : decode cX7_member 250 = .ok (.iconst 0, 1) := by decide +kernel
theorem dX7_member_251 : decode cX7_member 251 = .ok (.istore 10, 2) := by decide +kernel
theorem dX7_member_253 : decode cX7_member 253 = .ok (.iload 10, 2) := by decide +kernel
theorem dX7_member_255 : decode cX7_member 255 = .ok (.iload_n 1, 1) := by decide +kernel
theorem dX7_member_256 : decode cX7_member 256 = .ok (.if_icmp .ge 57, 3) := by decide +kernel
theorem dX7_member_259 : decode cX7_member 259 = .ok (.aload_n 0, 1) := by decide +kernel
theorem dX7_member_260 : decode cX7_member 260 = .ok (.getfield 71, 3) := by decide +kernel
theorem dX7_member_263 : decode cX7_member 263 = .ok (.ifCond .ne 50, 3) := by decide +kernel
theorem dX7_member_266 : decode cX7_member 266 = .ok (.aload_n 0, 1) := by decide +kernel
theorem dX7_member_267 : decode cX7_member 267 = .ok (.aload_n 0, 1) := by decide +kernel
theorem dX7_member_268 : decode cX7_member 268 = .ok (.getfield 34, 3) := by decide +kernel
theorem dX7_member_271 : decode cX7_member 271 = .ok (.iload 10, 2) := by decide +kernel
theorem dX7_member_273 : decode cX7_member 273 = .ok (.iaload, 1) := by decide +kernel
theorem dX7_member_274 : decode cX7_member 274 = .ok (.iload 7, 2) := by decide +kernel
theorem dX7_member_276 : decode cX7_member 276 = .ok (.invokevirtual 168, 3) := by decide +kernel
theorem dX7_member_279 : decode cX7_member 279 = .ok (.ifCond .eq 28, 3) := by decide +kernel
theorem dX7_member_282 : decode cX7_member 282 = .ok (.aload_n 0, 1) := by decide +kernel
theorem dX7_member_283 : decode cX7_member 283 = .ok (.aload_n 0, 1) := by decide +kernel
theorem dX7_member_284 : decode cX7_member 284 = .ok (.getfield 37, 3) := by decide +kernel
theorem dX7_member_287 : decode cX7_member 287 = .ok (.iload 10, 2) := by decide +kernel
theorem dX7_member_289 : decode cX7_member 289 = .ok (.iaload, 1) := by decide +kernel
theorem dX7_member_290 : decode cX7_member 290 = .ok (.iload 9, 2) := by decide +kernel
theorem dX7_member_292 : decode cX7_member 292 = .ok (.invokevirtual 168, 3) := by decide +kernel
theorem dX7_member_295 : decode cX7_member 295 = .ok (.ifCond .eq 12, 3) := by decide +kernel
theorem dX7_member_298 : decode cX7_member 298 = .ok (.aload_n 0, 1) := by decide +kernel
theorem dX7_member_299 : decode cX7_member 299 = .ok (.bipush 17, 2) := by decide +kernel
theorem dX7_member_301 : decode cX7_member 301 = .ok (.iload 6, 2) := by decide +kernel
theorem dX7_member_303 : decode cX7_member 303 = .ok (.invokevirtual 89, 3) := by decide +kernel
theorem dX7_member_306 : decode cX7_member 306 = .ok (.pop, 1) := by decide +kernel
theorem dX7_member_307 : decode cX7_member 307 = .ok (.iinc 10 1, 3) := by decide +kernel
theorem dX7_member_310 : decode cX7_member 310 = .ok (.goto (-57), 3) := by decide +kernel
theorem dX7_member_313 : decode cX7_member 313 = .ok (.iload_n 1, 1) := by decide +kernel
theorem dX7_member_314 : decode cX7_member 314 = .ok (.bipush 60, 2) := by decide +kernel
theorem dX7_member_316 : decode cX7_member 316 = .ok (.if_icmp .ge 19, 3) := by decide +kernel
theorem dX7_member_319 : decode cX7_member 319 = .ok (.aload_n 0, 1) := by decide +kernel
theorem dX7_member_320 : decode cX7_member 320 = .ok (.getfield 34, 3) := by decide +kernel
theorem dX7_member_323 : decode cX7_member 323 = .ok (.iload_n 1, 1) := by decide +kernel
theorem dX7_member_324 : decode cX7_member 324 = .ok (.iload 7, 2) := by decide +kernel
theorem dX7_member_326 : decode cX7_member 326 = .ok (.iastore, 1) := by decide +kernel
theorem dX7_member_327 : decode cX7_member 327 = .ok (.aload_n 0, 1) := by decide +kernel
theorem dX7_member_328 : decode cX7_member 328 = .ok (.getfield 37, 3) := by decide +kernel
theorem dX7_member_331 : decode cX7_member 331 = .ok (.iload_n 1, 1) := by decide +kernel
theorem dX7_member_332 : decode cX7_member 332 = .ok (.iload 9, 2) := by decide +kernel
theorem dX7_member_334 : decode cX7_member 334 = .ok (.iastore, 1) := by decide +kernel
theorem dX7_member_335 : decode cX7_member 335 = .ok (.iload_n 3, 1) := by decide +kernel
theorem dX7_member_336 : decode cX7_member 336 = .ok (.ireturn, 1) := by decide +kernel
theorem dX7_textAt_0 : decode cX7_textAt 0 = .ok (.aload_n 0, 1) := by decide +kernel
theorem dX7_textAt_1 : decode cX7_textAt 1 = .ok (.getfield 77, 3) := by decide +kernel
theorem dX7_textAt_4 : decode cX7_textAt 4 = .ok (.istore_n 1, 1) := by decide +kernel
theorem dX7_textAt_5 : decode cX7_textAt 5 = .ok (.aload_n 0, 1) := by decide +kernel
theorem dX7_textAt_6 : decode cX7_textAt 6 = .ok (.invokevirtual 130, 3) := by decide +kernel
theorem dX7_textAt_9 : decode cX7_textAt 9 = .ok (.istore_n 2, 1) := by decide +kernel
theorem dX7_textAt_10 : decode cX7_textAt 10 = .ok (.aload_n 0, 1) := by decide +kernel
theorem dX7_textAt_11 : decode cX7_textAt 11 = .ok (.getfield 71, 3) := by decide +kernel
theorem dX7_textAt_14 : decode cX7_textAt 14 = .ok (.ifCond .ne 20, 3) := by decide +kernel
theorem dX7_textAt_17 : decode cX7_textAt 17 = .ok (.aload_n 0, 1) := by decide +kernel
theorem dX7_textAt_18 : decode cX7_textAt 18 = .ok (.iload_n 2, 1) := by decide +kernel
theorem dX7_textAt_19 : decode cX7_textAt 19 = .ok (.iconst 1, 1) := by decide +kernel
theorem dX7_textAt_20 : decode cX7_textAt 20 = .ok (.invokevirtual 143, 3) := by decide +kernel
theorem dX7_textAt_23 : decode cX7_textAt 23 = .ok (.ifCond .ne 11, 3) := by decide +kernel
theorem dX7_textAt_26 : decode cX7_textAt 26 = .ok (.aload_n 0, 1) := by decide +kernel
theorem dX7_textAt_27 : decode cX7_textAt 27 = .ok (.bipush 15, 2) := by decide +kernel
theorem dX7_textAt_29 : decode cX7_textAt 29 = .ok (.iload_n 1, 1) := by decide +kernel
theorem dX7_textAt_30 : decode cX7_textAt 30 = .ok (.invokevirtual 89, 3) := by decide +kernel
theorem dX7_textAt_33 : decode cX7_textAt 33 = .ok (.pop, 1) := by decide +kernel
theorem dX7_textAt_34 : decode cX7_textAt 34 = .ok (.iload_n 2, 1) := by decide +kernel
theorem dX7_textAt_35 : decode cX7_textAt 35 = .ok (.ireturn, 1) := by decide +kernel
theorem dX7_lengthAt_0 : decode cX7_lengthAt 0 = .ok (.aload_n 0, 1) := by decide +kernel
theorem dX7_lengthAt_1 : decode cX7_lengthAt 1 = .ok (.iconst 4, 1) := by decide +kernel
theorem dX7_lengthAt_2 : decode cX7_lengthAt 2 = .ok (.invokevirtual 94, 3) := by decide +kernel
theorem dX7_lengthAt_5 : decode cX7_lengthAt 5 = .ok (.lstore_n 1, 1) := by decide +kernel
theorem dX7_lengthAt_6 : decode cX7_lengthAt 6 = .ok (.aload_n 0, 1) := by decide +kernel
theorem dX7_lengthAt_7 : decode cX7_lengthAt 7 = .ok (.getfield 71, 3) := by decide +kernel
theorem dX7_lengthAt_10 : decode cX7_lengthAt 10 = .ok (.ifCond .ne 24, 3) := by decide +kernel
theorem dX7_lengthAt_13 : decode cX7_lengthAt 13 = .ok (.lload_n 1, 1) := by decide +kernel
theorem dX7_lengthAt_14 : decode cX7_lengthAt 14 = .ok (.ldc2_w 171, 3) := by decide +kernel
theorem dX7_lengthAt_17 : decode cX7_lengthAt 17 = .ok (.lcmp, 1) := by decide +kernel
theorem dX7_lengthAt_18 : decode cX7_lengthAt 18 = .ok (.ifCond .lt 16, 3) := by decide +kernel
theorem dX7_lengthAt_21 : decode cX7_lengthAt 21 = .ok (.aload_n 0, 1) := by decide +kernel
theorem dX7_lengthAt_22 : decode cX7_lengthAt 22 = .ok (.aload_n 0, 1) := by decide +kernel
theorem dX7_lengthAt_23 : decode cX7_lengthAt 23 = .ok (.getfield 83, 3) := by decide +kernel
theorem dX7_lengthAt_26 : decode cX7_lengthAt 26 = .ok (.aload_n 0, 1) := by decide +kernel
theorem dX7_lengthAt_27 : decode cX7_lengthAt 27 = .ok (.getfield 86, 3) := by decide +kernel
theorem dX7_lengthAt_30 : decode cX7_lengthAt 30 = .ok (.invokevirtual 89, 3) := by decide +kernel
theorem dX7_lengthAt_33 : decode cX7_lengthAt 33 = .ok (.pop, 1) := by decide +kernel
theorem dX7_lengthAt_34 : decode cX7_lengthAt 34 = .ok (.lload_n 1, 1) := by decide +kernel
theorem dX7_lengthAt_35 : decode cX7_lengthAt 35 = .ok (.lreturn, 1) := by decide +kernel
theorem dX7_attributes_0 : decode cX7_attributes 0 = .ok (.aload_n 0, 1) := by decide +kernel
theorem dX7_attributes_1 : decode cX7_attributes 1 = .ok (.invokevirtual 130, 3) := by decide +kernel
theorem dX7_attributes_4 : decode cX7_attributes 4 = .ok (.istore_n 1, 1) := by decide +kernel
theorem dX7_attributes_5 : decode cX7_attributes 5 = .ok (.iconst 0, 1) := by decide +kernel
theorem dX7_attributes_6 : decode cX7_attributes 6 = .ok (.istore_n 2, 1) := by decide +kernel
theorem dX7_attributes_7 : decode cX7_attributes 7 = .ok (.iload_n 2, 1) := by decide +kernel
theorem dX7_attributes_8 : decode cX7_attributes 8 = .ok (.iload_n 1, 1) := by decide +kernel
theorem dX7_attributes_9 : decode cX7_attributes 9 = .ok (.if_icmp .ge 46, 3) := by decide +kernel
theorem dX7_attributes_12 : decode cX7_attributes 12 = .ok (.aload_n 0, 1) := by decide +kernel
theorem dX7_attributes_13 : decode cX7_attributes 13 = .ok (.getfield 71, 3) := by decide +kernel
theorem dX7_attributes_16 : decode cX7_attributes 16 = .ok (.ifCond .ne 39, 3) := by decide +kernel
theorem dX7_attributes_19 : decode cX7_attributes 19 = .ok (.aload_n 0, 1) := by decide +kernel
theorem dX7_attributes_20 : decode cX7_attributes 20 = .ok (.invokevirtual 173, 3) := by decide +kernel
theorem dX7_attributes_23 : decode cX7_attributes 23 = .ok (.pop, 1) := by decide +kernel
theorem dX7_attributes_24 : decode cX7_attributes 24 = .ok (.aload_n 0, 1) := by decide +kernel
theorem dX7_attributes_25 : decode cX7_attributes 25 = .ok (.aload_n 0, 1) := by decide +kernel
theorem dX7_attributes_26 : decode cX7_attributes 26 = .ok (.invokevirtual 176, 3) := by decide +kernel
theorem dX7_attributes_29 : decode cX7_attributes 29 = .ok (.invokevirtual 133, 3) := by decide +kernel
theorem dX7_attributes_32 : decode cX7_attributes 32 = .ok (.aload_n 0, 1) := by decide +kernel
theorem dX7_attributes_33 : decode cX7_attributes 33 = .ok (.getfield 71, 3) := by decide +kernel
theorem dX7_attributes_36 : decode cX7_attributes 36 = .ok (.ifCond .ne 13, 3) := by decide +kernel
theorem dX7_attributes_39 : decode cX7_attributes 39 = .ok (.aload_n 0, 1) := by decide +kernel
theorem dX7_attributes_40 : decode cX7_attributes 40 = .ok (.getfield 16, 3) := by decide +kernel
theorem dX7_attributes_43 : decode cX7_attributes 43 = .ok (.iconst 5, 1) := by decide +kernel
theorem dX7_attributes_44 : decode cX7_attributes 44 = .ok (.dup2, 1) := by decide +kernel
theorem dX7_attributes_45 : decode cX7_attributes 45 = .ok (.iaload, 1) := by decide +kernel
theorem dX7_attributes_46 : decode cX7_attributes 46 = .ok (.iconst 1, 1) := by decide +kernel
theorem dX7_attributes_47 : decode cX7_attributes 47 = .ok (.iadd, 1) := by decide +kernel
theorem dX7_attributes_48 : decode cX7_attributes 48 = .ok (.iastore, 1) := by decide +kernel
theorem dX7_attributes_49 : decode cX7_attributes 49 = .ok (.iinc 2 1, 3) := by decide +kernel
theorem dX7_attributes_52 : decode cX7_attributes 52 = .ok (.goto (-45), 3) := by decide +kernel
theorem dX7_attributes_55 : decode cX7_attributes 55 = .ok (.return_, 1) := by decide +kernel
theorem dX7_constantFits_0 : decode cX7_constantFits 0 = .ok (.aload_n 0, 1) := by decide +kernel
theorem dX7_constantFits_1 : decode cX7_constantFits 1 = .ok (.getfield 28, 3) := by decide +kernel
theorem dX7_constantFits_4 : decode cX7_constantFits 4 = .ok (.iload_n 1, 1) := by decide +kernel
theorem dX7_constantFits_5 : decode cX7_constantFits 5 = .ok (.iaload, 1) := by decide +kernel
theorem dX7_constantFits_6 : decode cX7_constantFits 6 = .ok (.iconst 1, 1) := by decide +kernel
theorem dX7_constantFits_7 : decode cX7_constantFits 7 = .ok (.if_icmp .eq 5, 3) := by decide +kernel
theorem dX7_constantFits_10 : decode cX7_constantFits 10 = .ok (.iconst 0, 1) := by decide +kernel
theorem dX7_constantFits_11 : decode cX7_constantFits 11 = .ok (.ireturn, 1) := by decide +kernel
theorem dX7_constantFits_12 : decode cX7_constantFits 12 = .ok (.aload_n 0, 1) := by decide +kernel
theorem dX7_constantFits_13 : decode cX7_constantFits 13 = .ok (.iload_n 1, 1) := by decide +kernel
theorem dX7_constantFits_14 : decode cX7_constantFits 14 = .ok (.iconst 0, 1) := by decide +kernel
theorem dX7_constantFits_15 : decode cX7_constantFits 15 = .ok (.invokevirtual 101, 3) := by decide +kernel
theorem dX7_constantFits_18 : decode cX7_constantFits 18 = .ok (.istore_n 3, 1) := by decide +kernel
theorem dX7_constantFits_19 : decode cX7_constantFits 19 = .ok (.iload_n 3, 1) := by decide +kernel
theorem dX7_constantFits_20 : decode cX7_constantFits 20 = .ok (.bipush 74, 2) := by decide +kernel
theorem dX7_constantFits_22 : decode cX7_constantFits 22 = .ok (.if_icmp .ne 10, 3) := by decide +kernel
theorem dX7_constantFits_25 : decode cX7_constantFits 25 = .ok (.aload_n 0, 1) := by decide +kernel
theorem dX7_constantFits_26 : decode cX7_constantFits 26 = .ok (.iload_n 2, 1) := by decide +kernel
theorem dX7_constantFits_27 : decode cX7_constantFits 27 = .ok (.iconst 5, 1) := by decide +kernel
theorem dX7_constantFits_28 : decode cX7_constantFits 28 = .ok (.invokevirtual 143, 3) := by decide +kernel
theorem dX7_constantFits_31 : decode cX7_constantFits 31 = .ok (.ireturn, 1) := by decide +kernel
theorem dX7_constantFits_32 : decode cX7_constantFits 32 = .ok (.iload_n 3, 1) := by decide +kernel
theorem dX7_constantFits_33 : decode cX7_constantFits 33 = .ok (.bipush 73, 2) := by decide +kernel
theorem dX7_constantFits_35 : decode cX7_constantFits 35 = .ok (.if_icmp .eq 27, 3) := by decide +kernel
theorem dX7_constantFits_38 : decode cX7_constantFits 38 = .ok (.iload_n 3, 1) := by decide +kernel
theorem dX7_constantFits_39 : decode cX7_constantFits 39 = .ok (.bipush 83, 2) := by decide +kernel
theorem dX7_constantFits_41 : decode cX7_constantFits 41 = .ok (.if_icmp .eq 21, 3) := by decide +kernel
theorem dX7_constantFits_44 : decode cX7_constantFits 44 = .ok (.iload_n 3, 1) := by decide +kernel
theorem dX7_constantFits_45 : decode cX7_constantFits 45 = .ok (.bipush 66, 2) := by decide +kernel
theorem dX7_constantFits_47 : decode cX7_constantFits 47 = .ok (.if_icmp .eq 15, 3) := by decide +kernel
theorem dX7_constantFits_50 : decode cX7_constantFits 50 = .ok (.iload_n 3, 1) := by decide +kernel
theorem dX7_constantFits_51 : decode cX7_constantFits 51 = .ok (.bipush 67, 2) := by decide +kernel
theorem dX7_constantFits_53 : decode cX7_constantFits 53 = .ok (.if_icmp .eq 9, 3) := by decide +kernel
theorem dX7_constantFits_56 : decode cX7_constantFits 56 = .ok (.iload_n 3, 1) := by decide +kernel
theorem dX7_constantFits_57 : decode cX7_constantFits 57 = .ok (.bipush 90, 2) := by decide +kernel
theorem dX7_constantFits_59 : decode cX7_constantFits 59 = .ok (.if_icmp .ne 16, 3) := by decide +kernel
theorem dX7_constantFits_62 : decode cX7_constantFits 62 = .ok (.aload_n 0, 1) := by decide +kernel
theorem dX7_constantFits_63 : decode cX7_constantFits 63 = .ok (.iload_n 2, 1) := by decide +kernel
theorem dX7_constantFits_64 : decode cX7_constantFits 64 = .ok (.iconst 3, 1) := by decide +kernel
theorem dX7_constantFits_65 : decode cX7_constantFits 65 = .ok (.invokevirtual 143, 3) := by decide +kernel
theorem dX7_constantFits_68 : decode cX7_constantFits 68 = .ok (.ifCond .eq 7, 3) := by decide +kernel
theorem dX7_constantFits_71 : decode cX7_constantFits 71 = .ok (.iconst 1, 1) := by decide +kernel
theorem dX7_constantFits_72 : decode cX7_constantFits 72 = .ok (.goto 4, 3) := by decide +kernel
theorem dX7_constantFits_75 : decode cX7_constantFits 75 = .ok (.iconst 0, 1) := by decide +kernel
theorem dX7_constantFits_76 : decode cX7_constantFits 76 = .ok (.ireturn, 1) := by decide +kernel
theorem dX7_fieldAttributes_0 : decode cX7_fieldAttributes 0 = .ok (.aload_n 0, 1) := by decide +kernel
theorem dX7_fieldAttributes_1 : decode cX7_fieldAttributes 1 = .ok (.invokevirtual 130, 3) := by decide +kernel
theorem dX7_fieldAttributes_4 : decode cX7_fieldAttributes 4 = .ok (.istore_n 2, 1) := by decide +kernel
theorem dX7_fieldAttributes_5 : decode cX7_fieldAttributes 5 = .ok (.iconst 0, 1) := by decide +kernel
theorem dX7_fieldAttributes_6 : decode cX7_fieldAttributes 6 = .ok (.istore_n 3, 1) := by decide +kernel
theorem dX7_fieldAttributes_7 : decode cX7_fieldAttributes 7 = .ok (.iload_n 3, 1) := by decide +kernel
theorem dX7_fieldAttributes_8 : decode cX7_fieldAttributes 8 = .ok (.iload_n 2, 1) := by decide +kernel
theorem dX7_fieldAttributes_9 : decode cX7_fieldAttributes 9 = .ok (.if_icmp .ge 148, 3) := by decide +kernel
theorem dX7_fieldAttributes_12 : decode cX7_fieldAttributes 12 = .ok (.aload_n 0, 1) := by decide +kernel
theorem dX7_fieldAttributes_13 : decode cX7_fieldAttributes 13 = .ok (.getfield 71, 3) := by decide +kernel
theorem dX7_fieldAttributes_16 : decode cX7_fieldAttributes 16 = .ok (.ifCond .ne 141, 3) := by decide +kernel
theorem dX7_fieldAttributes_19 : decode cX7_fieldAttributes 19 = .ok (.aload_n 0, 1) := by decide +kernel
theorem dX7_fieldAttributes_20 : decode cX7_fieldAttributes 20 = .ok (.getfield 77, 3) := by decide +kernel
theorem dX7_fieldAttributes_23 : decode cX7_fieldAttributes 23 = .ok (.istore 4, 2) := by decide +kernel
theorem dX7_fieldAttributes_25 : decode cX7_fieldAttributes 25 = .ok (.aload_n 0, 1) := by decide +kernel
theorem dX7_fieldAttributes_26 : decode cX7_fieldAttributes 26 = .ok (.invokevirtual 173, 3) := by decide +kernel
theorem dX7_fieldAttributes_29 : decode cX7_fieldAttributes 29 = .ok (.istore 5, 2) := by decide +kernel
theorem dX7_fieldAttributes_31 : decode cX7_fieldAttributes 31 = .ok (.aload_n 0, 1) := by decide +kernel
theorem dX7_fieldAttributes_32 : decode cX7_fieldAttributes 32 = .ok (.invokevirtual 176, 3) := by decide +kernel
theorem dX7_fieldAttributes_35 : decode cX7_fieldAttributes 35 = .ok (.lstore 6, 2) := by decide +kernel
theorem dX7_fieldAttributes_37 : decode cX7_fieldAttributes 37 = .ok (.aload_n 0, 1) := by decide +kernel
theorem dX7_fieldAttributes_38 : decode cX7_fieldAttributes 38 = .ok (.getfield 77, 3) := by decide +kernel
theorem dX7_fieldAttributes_41 : decode cX7_fieldAttributes 41 = .ok (.istore 8, 2) := by decide +kernel
theorem dX7_fieldAttributes_43 : decode cX7_fieldAttributes 43 = .ok (.aload_n 0, 1) := by decide +kernel
theorem dX7_fieldAttributes_44 : decode cX7_fieldAttributes 44 = .ok (.lload 6, 2) := by decide +kernel
theorem dX7_fieldAttributes_46 : decode cX7_fieldAttributes 46 = .ok (.invokevirtual 133, 3) := by decide +kernel
theorem dX7_fieldAttributes_49 : decode cX7_fieldAttributes 49 = .ok (.aload_n 0, 1) := by decide +kernel
theorem dX7_fieldAttributes_50 : decode cX7_fieldAttributes 50 = .ok (.getfield 71, 3) := by decide +kernel
theorem dX7_fieldAttributes_53 : decode cX7_fieldAttributes 53 = .ok (.ifCond .eq 4, 3) := by decide +kernel
theorem dX7_fieldAttributes_56 : decode cX7_fieldAttributes 56 = .ok (.return_, 1) := by decide +kernel
theorem dX7_fieldAttributes_57 : decode cX7_fieldAttributes 57 = .ok (.aload_n 0, 1) := by decide +kernel
theorem dX7_fieldAttributes_58 : decode cX7_fieldAttributes 58 = .ok (.iload 5, 2) := by decide +kernel
theorem dX7_fieldAttributes_60 : decode cX7_fieldAttributes 60 = .ok (.aload_n 0, 1) := by decide +kernel
theorem dX7_fieldAttributes_61 : decode cX7_fieldAttributes 61 = .ok (.getfield 53, 3) := by decide +kernel
theorem dX7_fieldAttributes_64 : decode cX7_fieldAttributes 64 = .ok (.invokevirtual 105, 3) := by decide +kernel
theorem dX7_fieldAttributes_67 : decode cX7_fieldAttributes 67 = .ok (.ifCond .eq 67, 3) := by decide +kernel
theorem dX7_fieldAttributes_70 : decode cX7_fieldAttributes 70 = .ok (.lload 6, 2) := by decide +kernel
theorem dX7_fieldAttributes_72 : decode cX7_fieldAttributes 72 = .ok (.ldc2_w 180, 3) := by decide +kernel
theorem dX7_fieldAttributes_75 : decode cX7_fieldAttributes 75 = .ok (.lcmp, 1) := by decide +kernel
theorem dX7_fieldAttributes_76 : decode cX7_fieldAttributes 76 = .ok (.ifCond .ne 27, 3) := by decide +kernel
theorem dX7_fieldAttributes_79 : decode cX7_fieldAttributes 79 = .ok (.sipush 256, 3) := by decide +kernel
theorem dX7_fieldAttributes_82 : decode cX7_fieldAttributes 82 = .ok (.aload_n 0, 1) := by decide +kernel
theorem dX7_fieldAttributes_83 : decode cX7_fieldAttributes 83 = .ok (.getfield 7, 3) := by decide +kernel
theorem dX7_fieldAttributes_86 : decode cX7_fieldAttributes 86 = .ok (.iload 8, 2) := by decide +kernel
theorem dX7_fieldAttributes_88 : decode cX7_fieldAttributes 88 = .ok (.iaload, 1) := by decide +kernel
theorem dX7_fieldAttributes_89 : decode cX7_fieldAttributes 89 = .ok (.imul, 1) := by decide +kernel
theorem dX7_fieldAttributes_90 : decode cX7_fieldAttributes 90 = .ok (.aload_n 0, 1) := by decide +kernel
theorem dX7_fieldAttributes_91 : decode cX7_fieldAttributes 91 = .ok (.getfield 7, 3) := by decide +kernel
theorem dX7_fieldAttributes_94 : decode cX7_fieldAttributes 94 = .ok (.iload 8, 2) := by decide +kernel
theorem dX7_fieldAttributes_96 : decode cX7_fieldAttributes 96 = .ok (.iconst 1, 1) := by decide +kernel
theorem dX7_fieldAttributes_97 : decode cX7_fieldAttributes 97 = .ok (.iadd, 1) := by decide +kernel
theorem dX7_fieldAttributes_98 : decode cX7_fieldAttributes 98 = .ok (.iaload, 1) := by decide +kernel
theorem dX7_fieldAttributes_99 : decode cX7_fieldAttributes 99 = .ok (.iadd, 1) := by decide +kernel
theorem dX7_fieldAttributes_100 : decode cX7_fieldAttributes 100 = .ok (.goto 4, 3) := by decide +kernel
theorem dX7_fieldAttributes_103 : decode cX7_fieldAttributes 103 = .ok (.iconst 0, 1) := by decide +kernel
theorem dX7_fieldAttributes_104 : decode cX7_fieldAttributes 104 = .ok (.istore 9, 2) := by decide +kernel
theorem dX7_fieldAttributes_106 : decode cX7_fieldAttributes 106 = .ok (.lload 6, 2) := by decide +kernel
theorem dX7_fieldAttributes_108 : decode cX7_fieldAttributes 108 = .ok (.ldc2_w 180, 3) := by decide +kernel
theorem dX7_fieldAttributes_111 : decode cX7_fieldAttributes 111 = .ok (.lcmp, 1) := by decide +kernel
theorem dX7_fieldAttributes_112 : decode cX7_fieldAttributes 112 = .ok (.ifCond .ne 13, 3) := by decide +kernel
theorem dX7_fieldAttributes_115 : decode cX7_fieldAttributes 115 = .ok (.aload_n 0, 1) := by decide +kernel
theorem dX7_fieldAttributes_116 : decode cX7_fieldAttributes 116 = .ok (.iload_n 1, 1) := by decide +kernel
theorem dX7_fieldAttributes_117 : decode cX7_fieldAttributes 117 = .ok (.iload 9, 2) := by decide +kernel
theorem dX7_fieldAttributes_119 : decode cX7_fieldAttributes 119 = .ok (.invokevirtual 182, 3) := by decide +kernel
theorem dX7_fieldAttributes_122 : decode cX7_fieldAttributes 122 = .ok (.ifCond .ne 12, 3) := by decide +kernel
theorem dX7_fieldAttributes_125 : decode cX7_fieldAttributes 125 = .ok (.aload_n 0, 1) := by decide +kernel
theorem dX7_fieldAttributes_126 : decode cX7_fieldAttributes 126 = .ok (.bipush 18, 2) := by decide +kernel
theorem dX7_fieldAttributes_128 : decode cX7_fieldAttributes 128 = .ok (.iload 4, 2) := by decide +kernel
theorem dX7_fieldAttributes_130 : decode cX7_fieldAttributes 130 = .ok (.invokevirtual 89, 3) := by decide +kernel
theorem dX7_fieldAttributes_133 : decode cX7_fieldAttributes 133 = .ok (.pop, 1) := by decide +kernel
theorem dX7_fieldAttributes_134 : decode cX7_fieldAttributes 134 = .ok (.aload_n 0, 1) := by decide +kernel
theorem dX7_fieldAttributes_135 : decode cX7_fieldAttributes 135 = .ok (.getfield 71, 3) := by decide +kernel
theorem dX7_fieldAttributes_138 : decode cX7_fieldAttributes 138 = .ok (.ifCond .ne 13, 3) := by decide +kernel
theorem dX7_fieldAttributes_141 : decode cX7_fieldAttributes 141 = .ok (.aload_n 0, 1) := by decide +kernel
theorem dX7_fieldAttributes_142 : decode cX7_fieldAttributes 142 = .ok (.getfield 16, 3) := by decide +kernel
theorem dX7_fieldAttributes_145 : decode cX7_fieldAttributes 145 = .ok (.iconst 5, 1) := by decide +kernel
theorem dX7_fieldAttributes_146 : decode cX7_fieldAttributes 146 = .ok (.dup2, 1) := by decide +kernel
theorem dX7_fieldAttributes_147 : decode cX7_fieldAttributes 147 = .ok (.iaload, 1) := by decide +kernel
theorem dX7_fieldAttributes_148 : decode cX7_fieldAttributes 148 = .ok (.iconst 1, 1) := by decide +kernel
theorem dX7_fieldAttributes_149 : decode cX7_fieldAttributes 149 = .ok (.iadd, 1) := by decide +kernel
theorem dX7_fieldAttributes_150 : decode cX7_fieldAttributes 150 = .ok (.iastore, 1) := by decide +kernel
theorem dX7_fieldAttributes_151 : decode cX7_fieldAttributes 151 = .ok (.iinc 3 1, 3) := by decide +kernel
theorem dX7_fieldAttributes_154 : decode cX7_fieldAttributes 154 = .ok (.goto (-147), 3) := by decide +kernel
theorem dX7_fieldAttributes_157 : decode cX7_fieldAttributes 157 = .ok (.return_, 1) := by decide +kernel
theorem dX7_fields_0 : decode cX7_fields 0 = .ok (.aload_n 0, 1) := by decide +kernel
theorem dX7_fields_1 : decode cX7_fields 1 = .ok (.invokevirtual 130, 3) := by decide +kernel
theorem dX7_fields_4 : decode cX7_fields 4 = .ok (.istore_n 1, 1) := by decide +kernel
theorem dX7_fields_5 : decode cX7_fields 5 = .ok (.iconst 0, 1) := by decide +kernel
theorem dX7_fields_6 : decode cX7_fields 6 = .ok (.istore_n 2, 1) := by decide +kernel
theorem dX7_fields_7 : decode cX7_fields 7 = .ok (.iload_n 2, 1) := by decide +kernel
theorem dX7_fields_8 : decode cX7_fields 8 = .ok (.iload_n 1, 1) := by decide +kernel
theorem dX7_fields_9 : decode cX7_fields 9 = .ok (.if_icmp .ge 57, 3) := by decide +kernel
theorem dX7_fields_12 : decode cX7_fields 12 = .ok (.aload_n 0, 1) := by decide +kernel
theorem dX7_fields_13 : decode cX7_fields 13 = .ok (.getfield 71, 3) := by decide +kernel
theorem dX7_fields_16 : decode cX7_fields 16 = .ok (.ifCond .ne 50, 3) := by decide +kernel
theorem dX7_fields_19 : decode cX7_fields 19 = .ok (.aload_n 0, 1) := by decide +kernel
theorem dX7_fields_20 : decode cX7_fields 20 = .ok (.iload_n 2, 1) := by decide +kernel
theorem dX7_fields_21 : decode cX7_fields 21 = .ok (.iconst 0, 1) := by decide +kernel
theorem dX7_fields_22 : decode cX7_fields 22 = .ok (.invokevirtual 185, 3) := by decide +kernel
theorem dX7_fields_25 : decode cX7_fields 25 = .ok (.pop, 1) := by decide +kernel
theorem dX7_fields_26 : decode cX7_fields 26 = .ok (.aload_n 0, 1) := by decide +kernel
theorem dX7_fields_27 : decode cX7_fields 27 = .ok (.getfield 71, 3) := by decide +kernel
theorem dX7_fields_30 : decode cX7_fields 30 = .ok (.ifCond .ne 13, 3) := by decide +kernel
theorem dX7_fields_33 : decode cX7_fields 33 = .ok (.aload_n 0, 1) := by decide +kernel
theorem dX7_fields_34 : decode cX7_fields 34 = .ok (.aload_n 0, 1) := by decide +kernel
theorem dX7_fields_35 : decode cX7_fields 35 = .ok (.getfield 37, 3) := by decide +kernel
theorem dX7_fields_38 : decode cX7_fields 38 = .ok (.iload_n 2, 1) := by decide +kernel
theorem dX7_fields_39 : decode cX7_fields 39 = .ok (.iaload, 1) := by decide +kernel
theorem dX7_fields_40 : decode cX7_fields 40 = .ok (.invokevirtual 189, 3) := by decide +kernel
theorem dX7_fields_43 : decode cX7_fields 43 = .ok (.aload_n 0, 1) := by decide +kernel
theorem dX7_fields_44 : decode cX7_fields 44 = .ok (.getfield 71, 3) := by decide +kernel
theorem dX7_fields_47 : decode cX7_fields 47 = .ok (.ifCond .ne 13, 3) := by decide +kernel
theorem dX7_fields_50 : decode cX7_fields 50 = .ok (.aload_n 0, 1) := by decide +kernel
theorem dX7_fields_51 : decode cX7_fields 51 = .ok (.getfield 16, 3) := by decide +kernel
theorem dX7_fields_54 : decode cX7_fields 54 = .ok (.iconst 1, 1) := by decide +kernel
theorem dX7_fields_55 : decode cX7_fields 55 = .ok (.dup2, 1) := by decide +kernel
theorem dX7_fields_56 : decode cX7_fields 56 = .ok (.iaload, 1) := by decide +kernel
theorem dX7_fields_57 : decode cX7_fields 57 = .ok (.iconst 1, 1) := by decide +kernel
theorem dX7_fields_58 : decode cX7_fields 58 = .ok (.iadd, 1) := by decide +kernel
theorem dX7_fields_59 : decode cX7_fields 59 = .ok (.iastore, 1) := by decide +kernel
theorem dX7_fields_60 : decode cX7_fields 60 = .ok (.iinc 2 1, 3) := by decide +kernel
theorem dX7_fields_63 : decode cX7_fields 63 = .ok (.goto (-56), 3) := by decide +kernel
theorem dX7_fields_66 : decode cX7_fields 66 = .ok (.return_, 1) := by decide +kernel
theorem dX7_methods_0 : decode cX7_methods 0 = .ok (.aload_n 0, 1) := by decide +kernel
theorem dX7_methods_1 : decode cX7_methods 1 = .ok (.invokevirtual 130, 3) := by decide +kernel
theorem dX7_methods_4 : decode cX7_methods 4 = .ok (.istore_n 1, 1) := by decide +kernel
theorem dX7_methods_5 : decode cX7_methods 5 = .ok (.iconst 0, 1) := by decide +kernel
theorem dX7_methods_6 : decode cX7_methods 6 = .ok (.istore_n 2, 1) := by decide +kernel
theorem dX7_methods_7 : decode cX7_methods 7 = .ok (.iload_n 2, 1) := by decide +kernel
theorem dX7_methods_8 : decode cX7_methods 8 = .ok (.iload_n 1, 1) := by decide +kernel
theorem dX7_methods_9 : decode cX7_methods 9 = .ok (.if_icmp .ge 117, 3) := by decide +kernel
theorem dX7_methods_12 : decode cX7_methods 12 = .ok (.aload_n 0, 1) := by decide +kernel
theorem dX7_methods_13 : decode cX7_methods 13 = .ok (.getfield 71, 3) := by decide +kernel
theorem dX7_methods_16 : decode cX7_methods 16 = .ok (.ifCond .ne 110, 3) := by decide +kernel
theorem dX7_methods_19 : decode cX7_methods 19 = .ok (.aload_n 0, 1) := by decide +kernel
theorem dX7_methods_20 : decode cX7_methods 20 = .ok (.iload_n 2, 1) := by decide +kernel
theorem dX7_methods_21 : decode cX7_methods 21 = .ok (.iconst 1, 1) := by decide +kernel
theorem dX7_methods_22 : decode cX7_methods 22 = .ok (.invokevirtual 185, 3) := by decide +kernel
theorem dX7_methods_25 : decode cX7_methods 25 = .ok (.istore_n 3, 1) := by decide +kernel
theorem dX7_methods_26 : decode cX7_methods 26 = .ok (.aload_n 0, 1) := by decide +kernel
theorem dX7_methods_27 : decode cX7_methods 27 = .ok (.getfield 71, 3) := by decide +kernel
theorem dX7_methods_30 : decode cX7_methods 30 = .ok (.ifCond .ne 14, 3) := by decide +kernel
theorem dX7_methods_33 : decode cX7_methods 33 = .ok (.aload_n 0, 1) := by decide +kernel
theorem dX7_methods_34 : decode cX7_methods 34 = .ok (.invokevirtual 193, 3) := by decide +kernel
theorem dX7_methods_37 : decode cX7_methods 37 = .ok (.ifCond .eq 7, 3) := by decide +kernel
theorem dX7_methods_40 : decode cX7_methods 40 = .ok (.iconst 1, 1) := by decide +kernel
theorem dX7_methods_41 : decode cX7_methods 41 = .ok (.goto 4, 3) := by decide +kernel
theorem dX7_methods_44 : decode cX7_methods 44 = .ok (.iconst 0, 1) := by decide +kernel
theorem dX7_methods_45 : decode cX7_methods 45 = .ok (.istore 4, 2) := by decide +kernel
theorem dX7_methods_47 : decode cX7_methods 47 = .ok (.aload_n 0, 1) := by decide +kernel
theorem dX7_methods_48 : decode cX7_methods 48 = .ok (.getfield 71, 3) := by decide +kernel
theorem dX7_methods_51 : decode cX7_methods 51 = .ok (.ifCond .eq 4, 3) := by decide +kernel
theorem dX7_methods_54 : decode cX7_methods 54 = .ok (.return_, 1) := by decide +kernel
theorem dX7_methods_55 : decode cX7_methods 55 = .ok (.sipush 256, 3) := by decide +kernel
theorem dX7_methods_58 : decode cX7_methods 58 = .ok (.aload_n 0, 1) := by decide +kernel
theorem dX7_methods_59 : decode cX7_methods 59 = .ok (.getfield 7, 3) := by decide +kernel
theorem dX7_methods_62 : decode cX7_methods 62 = .ok (.iload_n 3, 1) := by decide +kernel
theorem dX7_methods_63 : decode cX7_methods 63 = .ok (.iaload, 1) := by decide +kernel
theorem dX7_methods_64 : decode cX7_methods 64 = .ok (.imul, 1) := by decide +kernel
theorem dX7_methods_65 : decode cX7_methods 65 = .ok (.aload_n 0, 1) := by decide +kernel
theorem dX7_methods_66 : decode cX7_methods 66 = .ok (.getfield 7, 3) := by decide +kernel
theorem dX7_methods_69 : decode cX7_methods 69 = .ok (.iload_n 3, 1) := by decide +kernel
theorem dX7_methods_70 : decode cX7_methods 70 = .ok (.iconst 1, 1) := by decide +kernel
theorem dX7_methods_71 : decode cX7_methods 71 = .ok (.iadd, 1) := by decide +kernel
theorem dX7_methods_72 : decode cX7_methods 72 = .ok (.iaload, 1) := by decide +kernel
theorem dX7_methods_73 : decode cX7_methods 73 = .ok (.iadd, 1) := by decide +kernel
theorem dX7_methods_74 : decode cX7_methods 74 = .ok (.istore 5, 2) := by decide +kernel
theorem dX7_methods_76 : decode cX7_methods 76 = .ok (.iload 4, 2) := by decide +kernel
theorem dX7_methods_78 : decode cX7_methods 78 = .ok (.iload 5, 2) := by decide +kernel
theorem dX7_methods_80 : decode cX7_methods 80 = .ok (.sipush 1280, 3) := by decide +kernel
theorem dX7_methods_83 : decode cX7_methods 83 = .ok (.iand, 1) := by decide +kernel
theorem dX7_methods_84 : decode cX7_methods 84 = .ok (.ifCond .eq 7, 3) := by decide +kernel
theorem dX7_methods_87 : decode cX7_methods 87 = .ok (.iconst 1, 1) := by decide +kernel
theorem dX7_methods_88 : decode cX7_methods 88 = .ok (.goto 4, 3) := by decide +kernel
theorem dX7_methods_91 : decode cX7_methods 91 = .ok (.iconst 0, 1) := by decide +kernel
theorem dX7_methods_92 : decode cX7_methods 92 = .ok (.if_icmp .ne 11, 3) := by decide +kernel
theorem dX7_methods_95 : decode cX7_methods 95 = .ok (.aload_n 0, 1) := by decide +kernel
theorem dX7_methods_96 : decode cX7_methods 96 = .ok (.bipush 21, 2) := by decide +kernel
theorem dX7_methods_98 : decode cX7_methods 98 = .ok (.iload_n 3, 1) := by decide +kernel
theorem dX7_methods_99 : decode cX7_methods 99 = .ok (.invokevirtual 89, 3) := by decide +kernel
theorem dX7_methods_102 : decode cX7_methods 102 = .ok (.pop, 1) := by decide +kernel
theorem dX7_methods_103 : decode cX7_methods 103 = .ok (.aload_n 0, 1) := by decide +kernel
theorem dX7_methods_104 : decode cX7_methods 104 = .ok (.getfield 71, 3) := by decide +kernel
theorem dX7_methods_107 : decode cX7_methods 107 = .ok (.ifCond .ne 13, 3) := by decide +kernel
theorem dX7_methods_110 : decode cX7_methods 110 = .ok (.aload_n 0, 1) := by decide +kernel
theorem dX7_methods_111 : decode cX7_methods 111 = .ok (.getfield 16, 3) := by decide +kernel
theorem dX7_methods_114 : decode cX7_methods 114 = .ok (.iconst 2, 1) := by decide +kernel
theorem dX7_methods_115 : decode cX7_methods 115 = .ok (.dup2, 1) := by decide +kernel
theorem dX7_methods_116 : decode cX7_methods 116 = .ok (.iaload, 1) := by decide +kernel
theorem dX7_methods_117 : decode cX7_methods 117 = .ok (.iconst 1, 1) := by decide +kernel
theorem dX7_methods_118 : decode cX7_methods 118 = .ok (.iadd, 1) := by decide +kernel
theorem dX7_methods_119 : decode cX7_methods 119 = .ok (.iastore, 1) := by decide +kernel
theorem dX7_methods_120 : decode cX7_methods 120 = .ok (.iinc 2 1, 3) := by decide +kernel
theorem dX7_methods_123 : decode cX7_methods 123 = .ok (.goto (-116), 3) := by decide +kernel
theorem dX7_methods_126 : decode cX7_methods 126 = .ok (.return_, 1) := by decide +kernel
theorem dX7_methodAttributes_0 : decode cX7_methodAttributes 0 = .ok (.iconst 0, 1) := by decide +kernel
theorem dX7_methodAttributes_1 : decode cX7_methodAttributes 1 = .ok (.istore_n 1, 1) := by decide +kernel
theorem dX7_methodAttributes_2 : decode cX7_methodAttributes 2 = .ok (.aload_n 0, 1) := by decide +kernel
theorem dX7_methodAttributes_3 : decode cX7_methodAttributes 3 = .ok (.invokevirtual 130, 3) := by decide +kernel
theorem dX7_methodAttributes_6 : decode cX7_methodAttributes 6 = .ok (.istore_n 2, 1) := by decide +kernel
theorem dX7_methodAttributes_7 : decode cX7_methodAttributes 7 = .ok (.iconst 0, 1) := by decide +kernel
theorem dX7_methodAttributes_8 : decode cX7_methodAttributes 8 = .ok (.istore_n 3, 1) := by decide +kernel
theorem dX7_methodAttributes_9 : decode cX7_methodAttributes 9 = .ok (.iload_n 3, 1) := by decide +kernel
theorem dX7_methodAttributes_10 : decode cX7_methodAttributes 10 = .ok (.iload_n 2, 1) := by decide +kernel
theorem dX7_methodAttributes_11 : decode cX7_methodAttributes 11 = .ok (.if_icmp .ge 139, 3) := by decide +kernel
theorem dX7_methodAttributes_14 : decode cX7_methodAttributes 14 = .ok (.aload_n 0, 1) := by decide +kernel
theorem dX7_methodAttributes_15 : decode cX7_methodAttributes 15 = .ok (.getfield 71, 3) := by decide +kernel
theorem dX7_methodAttributes_18 : decode cX7_methodAttributes 18 = .ok (.ifCond .ne 132, 3) := by decide +kernel
theorem dX7_methodAttributes_21 : decode cX7_methodAttributes 21 = .ok (.aload_n 0, 1) := by decide +kernel
theorem dX7_methodAttributes_22 : decode cX7_methodAttributes 22 = .ok (.getfield 77, 3) := by decide +kernel
theorem dX7_methodAttributes_25 : decode cX7_methodAttributes 25 = .ok (.istore 4, 2) := by decide +kernel
theorem dX7_methodAttributes_27 : decode cX7_methodAttributes 27 = .ok (.aload_n 0, 1) := by decide +kernel
theorem dX7_methodAttributes_28 : decode cX7_methodAttributes 28 = .ok (.invokevirtual 173, 3) := by decide +kernel
theorem dX7_methodAttributes_31 : decode cX7_methodAttributes 31 = .ok (.istore 5, 2) := by decide +kernel
theorem dX7_methodAttributes_33 : decode cX7_methodAttributes 33 = .ok (.aload_n 0, 1) := by decide +kernel
theorem dX7_methodAttributes_34 : decode cX7_methodAttributes 34 = .ok (.getfield 71, 3) := by decide +kernel
theorem dX7_methodAttributes_37 : decode cX7_methodAttributes 37 = .ok (.ifCond .ne 20, 3) := by decide +kernel
theorem dX7_methodAttributes_40 : decode cX7_methodAttributes 40 = .ok (.aload_n 0, 1) := by decide +kernel
theorem dX7_methodAttributes_41 : decode cX7_methodAttributes 41 = .ok (.iload 5, 2) := by decide +kernel
theorem dX7_methodAttributes_43 : decode cX7_methodAttributes 43 = .ok (.aload_n 0, 1) := by decide +kernel
theorem dX7_methodAttributes_44 : decode cX7_methodAttributes 44 = .ok (.getfield 50, 3) := by decide +kernel
theorem dX7_methodAttributes_47 : decode cX7_methodAttributes 47 = .ok (.invokevirtual 105, 3) := by decide +kernel
theorem dX7_methodAttributes_50 : decode cX7_methodAttributes 50 = .ok (.ifCond .eq 7, 3) := by decide +kernel
theorem dX7_methodAttributes_53 : decode cX7_methodAttributes 53 = .ok (.iconst 1, 1) := by decide +kernel
theorem dX7_methodAttributes_54 : decode cX7_methodAttributes 54 = .ok (.goto 4, 3) := by decide +kernel
theorem dX7_methodAttributes_57 : decode cX7_methodAttributes 57 = .ok (.iconst 0, 1) := by decide +kernel
theorem dX7_methodAttributes_58 : decode cX7_methodAttributes 58 = .ok (.istore 6, 2) := by decide +kernel
theorem dX7_methodAttributes_60 : decode cX7_methodAttributes 60 = .ok (.iload 6, 2) := by decide +kernel
theorem dX7_methodAttributes_62 : decode cX7_methodAttributes 62 = .ok (.ifCond .eq 16, 3) := by decide +kernel
theorem dX7_methodAttributes_65 : decode cX7_methodAttributes 65 = .ok (.iload_n 1, 1) := by decide +kernel
theorem dX7_methodAttributes_66 : decode cX7_methodAttributes 66 = .ok (.ifCond .eq 12, 3) := by decide +kernel
theorem dX7_methodAttributes_69 : decode cX7_methodAttributes 69 = .ok (.aload_n 0, 1) := by decide +kernel
theorem dX7_methodAttributes_70 : decode cX7_methodAttributes 70 = .ok (.bipush 19, 2) := by decide +kernel
theorem dX7_methodAttributes_72 : decode cX7_methodAttributes 72 = .ok (.iload 4, 2) := by decide +kernel
theorem dX7_methodAttributes_74 : decode cX7_methodAttributes 74 = .ok (.invokevirtual 89, 3) := by decide +kernel
theorem dX7_methodAttributes_77 : decode cX7_methodAttributes 77 = .ok (.pop, 1) := by decide +kernel
theorem dX7_methodAttributes_78 : decode cX7_methodAttributes 78 = .ok (.aload_n 0, 1) := by decide +kernel
theorem dX7_methodAttributes_79 : decode cX7_methodAttributes 79 = .ok (.invokevirtual 176, 3) := by decide +kernel
theorem dX7_methodAttributes_82 : decode cX7_methodAttributes 82 = .ok (.lstore 7, 2) := by decide +kernel
theorem dX7_methodAttributes_84 : decode cX7_methodAttributes 84 = .ok (.aload_n 0, 1) := by decide +kernel
theorem dX7_methodAttributes_85 : decode cX7_methodAttributes 85 = .ok (.getfield 77, 3) := by decide +kernel
theorem dX7_methodAttributes_88 : decode cX7_methodAttributes 88 = .ok (.istore 9, 2) := by decide +kernel
theorem dX7_methodAttributes_90 : decode cX7_methodAttributes 90 = .ok (.aload_n 0, 1) := by decide +kernel
theorem dX7_methodAttributes_91 : decode cX7_methodAttributes 91 = .ok (.lload 7, 2) := by decide +kernel
theorem dX7_methodAttributes_93 : decode cX7_methodAttributes 93 = .ok (.invokevirtual 133, 3) := by decide +kernel
theorem dX7_methodAttributes_96 : decode cX7_methodAttributes 96 = .ok (.aload_n 0, 1) := by decide +kernel
theorem dX7_methodAttributes_97 : decode cX7_methodAttributes 97 = .ok (.getfield 71, 3) := by decide +kernel
theorem dX7_methodAttributes_100 : decode cX7_methodAttributes 100 = .ok (.ifCond .ne 20, 3) := by decide +kernel
theorem dX7_methodAttributes_103 : decode cX7_methodAttributes 103 = .ok (.iload 6, 2) := by decide +kernel
theorem dX7_methodAttributes_105 : decode cX7_methodAttributes 105 = .ok (.ifCond .eq 15, 3) := by decide +kernel
theorem dX7_methodAttributes_108 : decode cX7_methodAttributes 108 = .ok (.aload_n 0, 1) := by decide +kernel
theorem dX7_methodAttributes_109 : decode cX7_methodAttributes 109 = .ok (.iload 9, 2) := by decide +kernel
theorem dX7_methodAttributes_111 : decode cX7_methodAttributes 111 = .ok (.aload_n 0, 1) := by decide +kernel
theorem dX7_methodAttributes_112 : decode cX7_methodAttributes 112 = .ok (.getfield 77, 3) := by decide +kernel
theorem dX7_methodAttributes_115 : decode cX7_methodAttributes 115 = .ok (.iload 4, 2) := by decide +kernel
theorem dX7_methodAttributes_117 : decode cX7_methodAttributes 117 = .ok (.invokevirtual 197, 3) := by decide +kernel
theorem dX7_methodAttributes_120 : decode cX7_methodAttributes 120 = .ok (.iload 6, 2) := by decide +kernel
theorem dX7_methodAttributes_122 : decode cX7_methodAttributes 122 = .ok (.ifCond .eq 5, 3) := by decide +kernel
theorem dX7_methodAttributes_125 : decode cX7_methodAttributes 125 = .ok (.iconst 1, 1) := by decide +kernel
theorem dX7_methodAttributes_126 : decode cX7_methodAttributes 126 = .ok (.istore_n 1, 1) := by decide +kernel
theorem dX7_methodAttributes_127 : decode cX7_methodAttributes 127 = .ok (.aload_n 0, 1) := by decide +kernel
theorem dX7_methodAttributes_128 : decode cX7_methodAttributes 128 = .ok (.getfield 71, 3) := by decide +kernel
theorem dX7_methodAttributes_131 : decode cX7_methodAttributes 131 = .ok (.ifCond .ne 13, 3) := by decide +kernel
theorem dX7_methodAttributes_134 : decode cX7_methodAttributes 134 = .ok (.aload_n 0, 1) := by decide +kernel
theorem dX7_methodAttributes_135 : decode cX7_methodAttributes 135 = .ok (.getfield 16, 3) := by decide +kernel
theorem dX7_methodAttributes_138 : decode cX7_methodAttributes 138 = .ok (.iconst 5, 1) := by decide +kernel
theorem dX7_methodAttributes_139 : decode cX7_methodAttributes 139 = .ok (.dup2, 1) := by decide +kernel
theorem dX7_methodAttributes_140 : decode cX7_methodAttributes 140 = .ok (.iaload, 1) := by decide +kernel
theorem dX7_methodAttributes_141 : decode cX7_methodAttributes 141 = .ok (.iconst 1, 1) := by decide +kernel
theorem dX7_methodAttributes_142 : decode cX7_methodAttributes 142 = .ok (.iadd, 1) := by decide +kernel
theorem dX7_methodAttributes_143 : decode cX7_methodAttributes 143 = .ok (.iastore, 1) := by decide +kernel
theorem dX7_methodAttributes_144 : decode cX7_methodAttributes 144 = .ok (.iinc 3 1, 3) := by decide +kernel
theorem dX7_methodAttributes_147 : decode cX7_methodAttributes 147 = .ok (.goto (-138), 3) := by decide +kernel
theorem dX7_methodAttributes_150 : decode cX7_methodAttributes 150 = .ok (.iload_n 1, 1) := by decide +kernel
theorem dX7_methodAttributes_151 : decode cX7_methodAttributes 151 = .ok (.ireturn, 1) := by decide +kernel
theorem dX7_readCode_0 : decode cX7_readCode 0 = .ok (.aload_n 0, 1) := by decide +kernel
theorem dX7_readCode_1 : decode cX7_readCode 1 = .ok (.iload_n 2, 1) := by decide +kernel
theorem dX7_readCode_2 : decode cX7_readCode 2 = .ok (.putfield 80, 3) := by decide +kernel
theorem dX7_readCode_5 : decode cX7_readCode 5 = .ok (.aload_n 0, 1) := by decide +kernel
theorem dX7_readCode_6 : decode cX7_readCode 6 = .ok (.bipush 20, 2) := by decide +kernel
theorem dX7_readCode_8 : decode cX7_readCode 8 = .ok (.putfield 83, 3) := by decide +kernel
theorem dX7_readCode_11 : decode cX7_readCode 11 = .ok (.aload_n 0, 1) := by decide +kernel
theorem dX7_readCode_12 : decode cX7_readCode 12 = .ok (.iload_n 3, 1) := by decide +kernel
theorem dX7_readCode_13 : decode cX7_readCode 13 = .ok (.putfield 86, 3) := by decide +kernel
theorem dX7_readCode_16 : decode cX7_readCode 16 = .ok (.aload_n 0, 1) := by decide +kernel
theorem dX7_readCode_17 : decode cX7_readCode 17 = .ok (.iload_n 1, 1) := by decide +kernel
theorem dX7_readCode_18 : decode cX7_readCode 18 = .ok (.putfield 77, 3) := by decide +kernel
theorem dX7_readCode_21 : decode cX7_readCode 21 = .ok (.aload_n 0, 1) := by decide +kernel
theorem dX7_readCode_22 : decode cX7_readCode 22 = .ok (.invokevirtual 130, 3) := by decide +kernel
theorem dX7_readCode_25 : decode cX7_readCode 25 = .ok (.pop, 1) := by decide +kernel
theorem dX7_readCode_26 : decode cX7_readCode 26 = .ok (.aload_n 0, 1) := by decide +kernel
theorem dX7_readCode_27 : decode cX7_readCode 27 = .ok (.aload_n 0, 1) := by decide +kernel
theorem dX7_readCode_28 : decode cX7_readCode 28 = .ok (.invokevirtual 130, 3) := by decide +kernel
theorem dX7_readCode_31 : decode cX7_readCode 31 = .ok (.putfield 201, 3) := by decide +kernel
theorem dX7_readCode_34 : decode cX7_readCode 34 = .ok (.aload_n 0, 1) := by decide +kernel
theorem dX7_readCode_35 : decode cX7_readCode 35 = .ok (.getfield 77, 3) := by decide +kernel
theorem dX7_readCode_38 : decode cX7_readCode 38 = .ok (.istore 4, 2) := by decide +kernel
theorem dX7_readCode_40 : decode cX7_readCode 40 = .ok (.aload_n 0, 1) := by decide +kernel
theorem dX7_readCode_41 : decode cX7_readCode 41 = .ok (.iconst 4, 1) := by decide +kernel
theorem dX7_readCode_42 : decode cX7_readCode 42 = .ok (.invokevirtual 94, 3) := by decide +kernel
theorem dX7_readCode_45 : decode cX7_readCode 45 = .ok (.lstore 5, 2) := by decide +kernel
theorem dX7_readCode_47 : decode cX7_readCode 47 = .ok (.aload_n 0, 1) := by decide +kernel
theorem dX7_readCode_48 : decode cX7_readCode 48 = .ok (.getfield 71, 3) := by decide +kernel
theorem dX7_readCode_51 : decode cX7_readCode 51 = .ok (.ifCond .ne 28, 3) := by decide +kernel
theorem dX7_readCode_54 : decode cX7_readCode 54 = .ok (.lload 5, 2) := by decide +kernel
theorem dX7_readCode_56 : decode cX7_readCode 56 = .ok (.lconst 1, 1) := by decide +kernel
theorem dX7_readCode_57 : decode cX7_readCode 57 = .ok (.lcmp, 1) := by decide +kernel
theorem dX7_readCode_58 : decode cX7_readCode 58 = .ok (.ifCond .lt 12, 3) := by decide +kernel
theorem dX7_readCode_61 : decode cX7_readCode 61 = .ok (.lload 5, 2) := by decide +kernel
theorem dX7_readCode_63 : decode cX7_readCode 63 = .ok (.ldc2_w 204, 3) := by decide +kernel
theorem dX7_readCode_66 : decode cX7_readCode 66 = .ok (.lcmp, 1) := by decide +kernel
theorem dX7_readCode_67 : decode cX7_readCode 67 = .ok (.ifCond .le 12, 3) := by decide +kernel
theorem dX7_readCode_70 : decode cX7_readCode 70 = .ok (.aload_n 0, 1) := by decide +kernel
theorem dX7_readCode_71 : decode cX7_readCode 71 = .ok (.bipush 22, 2) := by decide +kernel
theorem dX7_readCode_73 : decode cX7_readCode 73 = .ok (.iload 4, 2) := by decide +kernel
theorem dX7_readCode_75 : decode cX7_readCode 75 = .ok (.invokevirtual 89, 3) := by decide +kernel
theorem dX7_readCode_78 : decode cX7_readCode 78 = .ok (.pop, 1) := by decide +kernel
theorem dX7_readCode_79 : decode cX7_readCode 79 = .ok (.aload_n 0, 1) := by decide +kernel
theorem dX7_readCode_80 : decode cX7_readCode 80 = .ok (.lload 5, 2) := by decide +kernel
theorem dX7_readCode_82 : decode cX7_readCode 82 = .ok (.l2i, 1) := by decide +kernel
theorem dX7_readCode_83 : decode cX7_readCode 83 = .ok (.putfield 206, 3) := by decide +kernel
theorem dX7_readCode_86 : decode cX7_readCode 86 = .ok (.aload_n 0, 1) := by decide +kernel
theorem dX7_readCode_87 : decode cX7_readCode 87 = .ok (.aload_n 0, 1) := by decide +kernel
theorem dX7_readCode_88 : decode cX7_readCode 88 = .ok (.getfield 77, 3) := by decide +kernel
theorem dX7_readCode_91 : decode cX7_readCode 91 = .ok (.putfield 209, 3) := by decide +kernel
theorem dX7_readCode_94 : decode cX7_readCode 94 = .ok (.aload_n 0, 1) := by decide +kernel
theorem dX7_readCode_95 : decode cX7_readCode 95 = .ok (.lload 5, 2) := by decide +kernel
theorem dX7_readCode_97 : decode cX7_readCode 97 = .ok (.invokevirtual 133, 3) := by decide +kernel
theorem dX7_readCode_100 : decode cX7_readCode 100 = .ok (.aload_n 0, 1) := by decide +kernel
theorem dX7_readCode_101 : decode cX7_readCode 101 = .ok (.aload_n 0, 1) := by decide +kernel
theorem dX7_readCode_102 : decode cX7_readCode 102 = .ok (.invokevirtual 130, 3) := by decide +kernel
theorem dX7_readCode_105 : decode cX7_readCode 105 = .ok (.putfield 212, 3) := by decide +kernel
theorem dX7_readCode_108 : decode cX7_readCode 108 = .ok (.aload_n 0, 1) := by decide +kernel
theorem dX7_readCode_109 : decode cX7_readCode 109 = .ok (.aload_n 0, 1) := by decide +kernel
theorem dX7_readCode_110 : decode cX7_readCode 110 = .ok (.getfield 77, 3) := by decide +kernel
theorem dX7_readCode_113 : decode cX7_readCode 113 = .ok (.putfield 215, 3) := by decide +kernel
theorem dX7_readCode_116 : decode cX7_readCode 116 = .ok (.aload_n 0, 1) := by decide +kernel
theorem dX7_readCode_117 : decode cX7_readCode 117 = .ok (.ldc2_w 218, 3) := by decide +kernel
theorem dX7_readCode_120 : decode cX7_readCode 120 = .ok (.aload_n 0, 1) := by decide +kernel
theorem dX7_readCode_121 : decode cX7_readCode 121 = .ok (.getfield 212, 3) := by decide +kernel
theorem dX7_readCode_124 : decode cX7_readCode 124 = .ok (.i2l, 1) := by decide +kernel
theorem dX7_readCode_125 : decode cX7_readCode 125 = .ok (.lmul, 1) := by decide +kernel
theorem dX7_readCode_126 : decode cX7_readCode 126 = .ok (.invokevirtual 133, 3) := by decide +kernel
theorem dX7_readCode_129 : decode cX7_readCode 129 = .ok (.aload_n 0, 1) := by decide +kernel
theorem dX7_readCode_130 : decode cX7_readCode 130 = .ok (.invokevirtual 220, 3) := by decide +kernel
theorem dX7_readCode_133 : decode cX7_readCode 133 = .ok (.aload_n 0, 1) := by decide +kernel
theorem dX7_readCode_134 : decode cX7_readCode 134 = .ok (.getfield 71, 3) := by decide +kernel
theorem dX7_readCode_137 : decode cX7_readCode 137 = .ok (.ifCond .ne 19, 3) := by decide +kernel
theorem dX7_readCode_140 : decode cX7_readCode 140 = .ok (.aload_n 0, 1) := by decide +kernel
theorem dX7_readCode_141 : decode cX7_readCode 141 = .ok (.getfield 77, 3) := by decide +kernel
theorem dX7_readCode_144 : decode cX7_readCode 144 = .ok (.iload_n 2, 1) := by decide +kernel
theorem dX7_readCode_145 : decode cX7_readCode 145 = .ok (.if_icmp .eq 11, 3) := by decide +kernel
theorem dX7_readCode_148 : decode cX7_readCode 148 = .ok (.aload_n 0, 1) := by decide +kernel
theorem dX7_readCode_149 : decode cX7_readCode 149 = .ok (.bipush 20, 2) := by decide +kernel
theorem dX7_readCode_151 : decode cX7_readCode 151 = .ok (.iload_n 3, 1) := by decide +kernel
theorem dX7_readCode_152 : decode cX7_readCode 152 = .ok (.invokevirtual 89, 3) := by decide +kernel
theorem dX7_readCode_155 : decode cX7_readCode 155 = .ok (.pop, 1) := by decide +kernel
theorem dX7_readCode_156 : decode cX7_readCode 156 = .ok (.aload_n 0, 1) := by decide +kernel
theorem dX7_readCode_157 : decode cX7_readCode 157 = .ok (.aload_n 0, 1) := by decide +kernel
theorem dX7_readCode_158 : decode cX7_readCode 158 = .ok (.getfield 59, 3) := by decide +kernel
theorem dX7_readCode_161 : decode cX7_readCode 161 = .ok (.putfield 80, 3) := by decide +kernel
theorem dX7_readCode_164 : decode cX7_readCode 164 = .ok (.aload_n 0, 1) := by decide +kernel
theorem dX7_readCode_165 : decode cX7_readCode 165 = .ok (.iconst 1, 1) := by decide +kernel
theorem dX7_readCode_166 : decode cX7_readCode 166 = .ok (.putfield 83, 3) := by decide +kernel
theorem dX7_readCode_169 : decode cX7_readCode 169 = .ok (.aload_n 0, 1) := by decide +kernel
theorem dX7_readCode_170 : decode cX7_readCode 170 = .ok (.aload_n 0, 1) := by decide +kernel
theorem dX7_readCode_171 : decode cX7_readCode 171 = .ok (.getfield 59, 3) := by decide +kernel
theorem dX7_readCode_174 : decode cX7_readCode 174 = .ok (.putfield 86, 3) := by decide +kernel
theorem dX7_readCode_177 : decode cX7_readCode 177 = .ok (.aload_n 0, 1) := by decide +kernel
theorem dX7_readCode_178 : decode cX7_readCode 178 = .ok (.getfield 71, 3) := by decide +kernel
theorem dX7_readCode_181 : decode cX7_readCode 181 = .ok (.ifCond .ne 7, 3) := by decide +kernel
theorem dX7_readCode_184 : decode cX7_readCode 184 = .ok (.aload_n 0, 1) := by decide +kernel
theorem dX7_readCode_185 : decode cX7_readCode 185 = .ok (.invokevirtual 223, 3) := by decide +kernel
theorem dX7_readCode_188 : decode cX7_readCode 188 = .ok (.aload_n 0, 1) := by decide +kernel
theorem dX7_readCode_189 : decode cX7_readCode 189 = .ok (.getfield 71, 3) := by decide +kernel
theorem dX7_readCode_192 : decode cX7_readCode 192 = .ok (.ifCond .eq 4, 3) := by decide +kernel
theorem dX7_readCode_195 : decode cX7_readCode 195 = .ok (.return_, 1) := by decide +kernel
theorem dX7_readCode_196 : decode cX7_readCode 196 = .ok (.aload_n 0, 1) := by decide +kernel
theorem dX7_readCode_197 : decode cX7_readCode 197 = .ok (.getfield 16, 3) := by decide +kernel
theorem dX7_readCode_200 : decode cX7_readCode 200 = .ok (.iconst 3, 1) := by decide +kernel
theorem dX7_readCode_201 : decode cX7_readCode 201 = .ok (.dup2, 1) := by decide +kernel
theorem dX7_readCode_202 : decode cX7_readCode 202 = .ok (.iaload, 1) := by decide +kernel
theorem dX7_readCode_203 : decode cX7_readCode 203 = .ok (.aload_n 0, 1) := by decide +kernel
theorem dX7_readCode_204 : decode cX7_readCode 204 = .ok (.getfield 226, 3) := by decide +kernel
theorem dX7_readCode_207 : decode cX7_readCode 207 = .ok (.iadd, 1) := by decide +kernel
theorem dX7_readCode_208 : decode cX7_readCode 208 = .ok (.iastore, 1) := by decide +kernel
theorem dX7_readCode_209 : decode cX7_readCode 209 = .ok (.aload_n 0, 1) := by decide +kernel
theorem dX7_readCode_210 : decode cX7_readCode 210 = .ok (.getfield 16, 3) := by decide +kernel
theorem dX7_readCode_213 : decode cX7_readCode 213 = .ok (.iconst 4, 1) := by decide +kernel
theorem dX7_readCode_214 : decode cX7_readCode 214 = .ok (.dup2, 1) := by decide +kernel
theorem dX7_readCode_215 : decode cX7_readCode 215 = .ok (.iaload, 1) := by decide +kernel
theorem dX7_readCode_216 : decode cX7_readCode 216 = .ok (.aload_n 0, 1) := by decide +kernel
theorem dX7_readCode_217 : decode cX7_readCode 217 = .ok (.getfield 212, 3) := by decide +kernel
theorem dX7_readCode_220 : decode cX7_readCode 220 = .ok (.iadd, 1) := by decide +kernel
theorem dX7_readCode_221 : decode cX7_readCode 221 = .ok (.iastore, 1) := by decide +kernel
theorem dX7_readCode_222 : decode cX7_readCode 222 = .ok (.return_, 1) := by decide +kernel
theorem dX7_byteAt_0 : decode cX7_byteAt 0 = .ok (.iload_n 1, 1) := by decide +kernel
theorem dX7_byteAt_1 : decode cX7_byteAt 1 = .ok (.aload_n 0, 1) := by decide +kernel
theorem dX7_byteAt_2 : decode cX7_byteAt 2 = .ok (.getfield 206, 3) := by decide +kernel
theorem dX7_byteAt_5 : decode cX7_byteAt 5 = .ok (.if_icmp .ge 17, 3) := by decide +kernel
theorem dX7_byteAt_8 : decode cX7_byteAt 8 = .ok (.aload_n 0, 1) := by decide +kernel
theorem dX7_byteAt_9 : decode cX7_byteAt 9 = .ok (.getfield 7, 3) := by decide +kernel
theorem dX7_byteAt_12 : decode cX7_byteAt 12 = .ok (.aload_n 0, 1) := by decide +kernel
theorem dX7_byteAt_13 : decode cX7_byteAt 13 = .ok (.getfield 209, 3) := by decide +kernel
theorem dX7_byteAt_16 : decode cX7_byteAt 16 = .ok (.iload_n 1, 1) := by decide +kernel
theorem dX7_byteAt_17 : decode cX7_byteAt 17 = .ok (.iadd, 1) := by decide +kernel
theorem dX7_byteAt_18 : decode cX7_byteAt 18 = .ok (.iaload, 1) := by decide +kernel
theorem dX7_byteAt_19 : decode cX7_byteAt 19 = .ok (.goto 4, 3) := by decide +kernel
theorem dX7_byteAt_22 : decode cX7_byteAt 22 = .ok (.iconst 0, 1) := by decide +kernel
theorem dX7_byteAt_23 : decode cX7_byteAt 23 = .ok (.ireturn, 1) := by decide +kernel
theorem dX7_shortAt_0 : decode cX7_shortAt 0 = .ok (.sipush 256, 3) := by decide +kernel
theorem dX7_shortAt_3 : decode cX7_shortAt 3 = .ok (.aload_n 0, 1) := by decide +kernel
theorem dX7_shortAt_4 : decode cX7_shortAt 4 = .ok (.iload_n 1, 1) := by decide +kernel
theorem dX7_shortAt_5 : decode cX7_shortAt 5 = .ok (.invokevirtual 229, 3) := by decide +kernel
theorem dX7_shortAt_8 : decode cX7_shortAt 8 = .ok (.imul, 1) := by decide +kernel
theorem dX7_shortAt_9 : decode cX7_shortAt 9 = .ok (.aload_n 0, 1) := by decide +kernel
theorem dX7_shortAt_10 : decode cX7_shortAt 10 = .ok (.iload_n 1, 1) := by decide +kernel
theorem dX7_shortAt_11 : decode cX7_shortAt 11 = .ok (.iconst 1, 1) := by decide +kernel
theorem dX7_shortAt_12 : decode cX7_shortAt 12 = .ok (.iadd, 1) := by decide +kernel
theorem dX7_shortAt_13 : decode cX7_shortAt 13 = .ok (.invokevirtual 229, 3) := by decide +kernel
theorem dX7_shortAt_16 : decode cX7_shortAt 16 = .ok (.iadd, 1) := by decide +kernel
theorem dX7_shortAt_17 : decode cX7_shortAt 17 = .ok (.ireturn, 1) := by decide +kernel
theorem dX7_wordAt_0 : decode cX7_wordAt 0 = .ok (.aload_n 0, 1) := by decide +kernel
theorem dX7_wordAt_1 : decode cX7_wordAt 1 = .ok (.iload_n 1, 1) := by decide +kernel
theorem dX7_wordAt_2 : decode cX7_wordAt 2 = .ok (.invokevirtual 233, 3) := by decide +kernel
theorem dX7_wordAt_5 : decode cX7_wordAt 5 = .ok (.bipush 16, 2) := by decide +kernel
theorem dX7_wordAt_7 : decode cX7_wordAt 7 = .ok (.ishl, 1) := by decide +kernel
theorem dX7_wordAt_8 : decode cX7_wordAt 8 = .ok (.aload_n 0, 1) := by decide +kernel
theorem dX7_wordAt_9 : decode cX7_wordAt 9 = .ok (.iload_n 1, 1) := by decide +kernel
theorem dX7_wordAt_10 : decode cX7_wordAt 10 = .ok (.iconst 2, 1) := by decide +kernel
theorem dX7_wordAt_11 : decode cX7_wordAt 11 = .ok (.iadd, 1) := by decide +kernel
theorem dX7_wordAt_12 : decode cX7_wordAt 12 = .ok (.invokevirtual 233, 3) := by decide +kernel
theorem dX7_wordAt_15 : decode cX7_wordAt 15 = .ok (.ior, 1) := by decide +kernel
theorem dX7_wordAt_16 : decode cX7_wordAt 16 = .ok (.ireturn, 1) := by decide +kernel
theorem dX7_tableAt_0 : decode cX7_tableAt 0 = .ok (.iload_n 0, 1) := by decide +kernel
theorem dX7_tableAt_1 : decode cX7_tableAt 1 = .ok (.iconst 4, 1) := by decide +kernel
theorem dX7_tableAt_2 : decode cX7_tableAt 2 = .ok (.iadd, 1) := by decide +kernel
theorem dX7_tableAt_3 : decode cX7_tableAt 3 = .ok (.iload_n 0, 1) := by decide +kernel
theorem dX7_tableAt_4 : decode cX7_tableAt 4 = .ok (.iconst 4, 1) := by decide +kernel
theorem dX7_tableAt_5 : decode cX7_tableAt 5 = .ok (.irem, 1) := by decide +kernel
theorem dX7_tableAt_6 : decode cX7_tableAt 6 = .ok (.isub, 1) := by decide +kernel
theorem dX7_tableAt_7 : decode cX7_tableAt 7 = .ok (.ireturn, 1) := by decide +kernel
theorem dX7_size_0 : decode cX7_size 0 = .ok (.aload_n 0, 1) := by decide +kernel
theorem dX7_size_1 : decode cX7_size 1 = .ok (.iload_n 1, 1) := by decide +kernel
theorem dX7_size_2 : decode cX7_size 2 = .ok (.invokevirtual 229, 3) := by decide +kernel
theorem dX7_size_5 : decode cX7_size 5 = .ok (.lookupswitch 300 #[(0, 163), (1, 163), (3, 163), (16, 165), (17, 167), (18, 165), (21, 165), (54, 165), (87, 163), (96, 163), (132, 167), (153, 167), (167, 167), (170, 219), (172, 163), (177, 163), (184, 167), (191, 163), (196, 169)], 163) := by decide +kernel
theorem dX7_size_168 : decode cX7_size 168 = .ok (.iconst 1, 1) := by decide +kernel
theorem dX7_size_169 : decode cX7_size 169 = .ok (.ireturn, 1) := by decide +kernel
theorem dX7_size_170 : decode cX7_size 170 = .ok (.iconst 2, 1) := by decide +kernel
theorem dX7_size_171 : decode cX7_size 171 = .ok (.ireturn, 1) := by decide +kernel
theorem dX7_size_172 : decode cX7_size 172 = .ok (.iconst 3, 1) := by decide +kernel
theorem dX7_size_173 : decode cX7_size 173 = .ok (.ireturn, 1) := by decide +kernel
theorem dX7_size_174 : decode cX7_size 174 = .ok (.aload_n 0, 1) := by decide +kernel
theorem dX7_size_175 : decode cX7_size 175 = .ok (.iload_n 1, 1) := by decide +kernel
theorem dX7_size_176 : decode cX7_size 176 = .ok (.iconst 1, 1) := by decide +kernel
theorem dX7_size_177 : decode cX7_size 177 = .ok (.iadd, 1) := by decide +kernel
theorem dX7_size_178 : decode cX7_size 178 = .ok (.invokevirtual 229, 3) := by decide +kernel
theorem dX7_size_181 : decode cX7_size 181 = .ok (.istore_n 2, 1) := by decide +kernel
theorem dX7_size_182 : decode cX7_size 182 = .ok (.iload_n 1, 1) := by decide +kernel
theorem dX7_size_183 : decode cX7_size 183 = .ok (.iconst 1, 1) := by decide +kernel
theorem dX7_size_184 : decode cX7_size 184 = .ok (.iadd, 1) := by decide +kernel
theorem dX7_size_185 : decode cX7_size 185 = .ok (.aload_n 0, 1) := by decide +kernel
theorem dX7_size_186 : decode cX7_size 186 = .ok (.getfield 206, 3) := by decide +kernel
theorem dX7_size_189 : decode cX7_size 189 = .ok (.if_icmp .lt 5, 3) := by decide +kernel
theorem dX7_size_192 : decode cX7_size 192 = .ok (.iconst (-1), 1) := by decide +kernel
theorem dX7_size_193 : decode cX7_size 193 = .ok (.ireturn, 1) := by decide +kernel
theorem dX7_size_194 : decode cX7_size 194 = .ok (.iload_n 2, 1) := by decide +kernel
theorem dX7_size_195 : decode cX7_size 195 = .ok (.bipush 21, 2) := by decide +kernel
theorem dX7_size_197 : decode cX7_size 197 = .ok (.if_icmp .eq 9, 3) := by decide +kernel
theorem dX7_size_200 : decode cX7_size 200 = .ok (.iload_n 2, 1) := by decide +kernel
theorem dX7_size_201 : decode cX7_size 201 = .ok (.bipush 54, 2) := by decide +kernel
theorem dX7_size_203 : decode cX7_size 203 = .ok (.if_icmp .ne 7, 3) := by decide +kernel
theorem dX7_size_206 : decode cX7_size 206 = .ok (.iconst 4, 1) := by decide +kernel
theorem dX7_size_207 : decode cX7_size 207 = .ok (.goto 16, 3) := by decide +kernel
theorem dX7_size_210 : decode cX7_size 210 = .ok (.iload_n 2, 1) := by decide +kernel
theorem dX7_size_211 : decode cX7_size 211 = .ok (.sipush 132, 3) := by decide +kernel
theorem dX7_size_214 : decode cX7_size 214 = .ok (.if_icmp .ne 8, 3) := by decide +kernel
theorem dX7_size_217 : decode cX7_size 217 = .ok (.bipush 6, 2) := by decide +kernel
theorem dX7_size_219 : decode cX7_size 219 = .ok (.goto 4, 3) := by decide +kernel
theorem dX7_size_222 : decode cX7_size 222 = .ok (.iconst (-1), 1) := by decide +kernel
theorem dX7_size_223 : decode cX7_size 223 = .ok (.ireturn, 1) := by decide +kernel
theorem dX7_size_224 : decode cX7_size 224 = .ok (.iload_n 1, 1) := by decide +kernel
theorem dX7_size_225 : decode cX7_size 225 = .ok (.invokestatic 236, 3) := by decide +kernel
theorem dX7_size_228 : decode cX7_size 228 = .ok (.istore_n 3, 1) := by decide +kernel
theorem dX7_size_229 : decode cX7_size 229 = .ok (.iload_n 3, 1) := by decide +kernel
theorem dX7_size_230 : decode cX7_size 230 = .ok (.bipush 12, 2) := by decide +kernel
theorem dX7_size_232 : decode cX7_size 232 = .ok (.iadd, 1) := by decide +kernel
theorem dX7_size_233 : decode cX7_size 233 = .ok (.aload_n 0, 1) := by decide +kernel
theorem dX7_size_234 : decode cX7_size 234 = .ok (.getfield 206, 3) := by decide +kernel
theorem dX7_size_237 : decode cX7_size 237 = .ok (.if_icmp .le 5, 3) := by decide +kernel
theorem dX7_size_240 : decode cX7_size 240 = .ok (.iconst (-1), 1) := by decide +kernel
theorem dX7_size_241 : decode cX7_size 241 = .ok (.ireturn, 1) := by decide +kernel
theorem dX7_size_242 : decode cX7_size 242 = .ok (.aload_n 0, 1) := by decide +kernel
theorem dX7_size_243 : decode cX7_size 243 = .ok (.iload_n 3, 1) := by decide +kernel
theorem dX7_size_244 : decode cX7_size 244 = .ok (.iconst 4, 1) := by decide +kernel
theorem dX7_size_245 : decode cX7_size 245 = .ok (.iadd, 1) := by decide +kernel
theorem dX7_size_246 : decode cX7_size 246 = .ok (.invokevirtual 239, 3) := by decide +kernel
theorem dX7_size_249 : decode cX7_size 249 = .ok (.i2l, 1) := by decide +kernel
theorem dX7_size_250 : decode cX7_size 250 = .ok (.lstore 4, 2) := by decide +kernel
theorem dX7_size_252 : decode cX7_size 252 = .ok (.aload_n 0, 1) := by decide +kernel
theorem dX7_size_253 : decode cX7_size 253 = .ok (.iload_n 3, 1) := by decide +kernel
theorem dX7_size_254 : decode cX7_size 254 = .ok (.bipush 8, 2) := by decide +kernel
theorem dX7_size_256 : decode cX7_size 256 = .ok (.iadd, 1) := by decide +kernel
theorem dX7_size_257 : decode cX7_size 257 = .ok (.invokevirtual 239, 3) := by decide +kernel
theorem dX7_size_260 : decode cX7_size 260 = .ok (.i2l, 1) := by decide +kernel
theorem dX7_size_261 : decode cX7_size 261 = .ok (.lstore 6, 2) := by decide +kernel
theorem dX7_size_263 : decode cX7_size 263 = .ok (.lload 4, 2) := by decide +kernel
theorem dX7_size_265 : decode cX7_size 265 = .ok (.lload 6, 2) := by decide +kernel
theorem dX7_size_267 : decode cX7_size 267 = .ok (.lcmp, 1) := by decide +kernel
theorem dX7_size_268 : decode cX7_size 268 = .ok (.ifCond .gt 15, 3) := by decide +kernel
theorem dX7_size_271 : decode cX7_size 271 = .ok (.lload 6, 2) := by decide +kernel
theorem dX7_size_273 : decode cX7_size 273 = .ok (.lload 4, 2) := by decide +kernel
theorem dX7_size_275 : decode cX7_size 275 = .ok (.lsub, 1) := by decide +kernel
theorem dX7_size_276 : decode cX7_size 276 = .ok (.ldc2_w 242, 3) := by decide +kernel
theorem dX7_size_279 : decode cX7_size 279 = .ok (.lcmp, 1) := by decide +kernel
theorem dX7_size_280 : decode cX7_size 280 = .ok (.ifCond .le 7, 3) := by decide +kernel
theorem dX7_size_283 : decode cX7_size 283 = .ok (.iconst (-1), 1) := by decide +kernel
