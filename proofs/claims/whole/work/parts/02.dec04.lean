theorem dX7_init_24 : decode cX7_init 24 = .ok (.newarray .int, 2) := by decide +kernel
theorem dX7_init_26 : decode cX7_init 26 = .ok (.putfield 16, 3) := by decide +kernel
theorem dX7_init_29 : decode cX7_init 29 = .ok (.aload_n 0, 1) := by decide +kernel
theorem dX7_init_30 : decode cX7_init 30 = .ok (.sipush 420, 3) := by decide +kernel
theorem dX7_init_33 : decode cX7_init 33 = .ok (.newarray .int, 2) := by decide +kernel
theorem dX7_init_35 : decode cX7_init 35 = .ok (.putfield 19, 3) := by decide +kernel
theorem dX7_init_38 : decode cX7_init 38 = .ok (.aload_n 0, 1) := by decide +kernel
theorem dX7_init_39 : decode cX7_init 39 = .ok (.sipush 420, 3) := by decide +kernel
theorem dX7_init_42 : decode cX7_init 42 = .ok (.newarray .int, 2) := by decide +kernel
theorem dX7_init_44 : decode cX7_init 44 = .ok (.putfield 22, 3) := by decide +kernel
theorem dX7_init_47 : decode cX7_init 47 = .ok (.aload_n 0, 1) := by decide +kernel
theorem dX7_init_48 : decode cX7_init 48 = .ok (.sipush 420, 3) := by decide +kernel
theorem dX7_init_51 : decode cX7_init 51 = .ok (.newarray .int, 2) := by decide +kernel
theorem dX7_init_53 : decode cX7_init 53 = .ok (.putfield 25, 3) := by decide +kernel
theorem dX7_init_56 : decode cX7_init 56 = .ok (.aload_n 0, 1) := by decide +kernel
theorem dX7_init_57 : decode cX7_init 57 = .ok (.sipush 420, 3) := by decide +kernel
theorem dX7_init_60 : decode cX7_init 60 = .ok (.newarray .int, 2) := by decide +kernel
theorem dX7_init_62 : decode cX7_init 62 = .ok (.putfield 28, 3) := by decide +kernel
theorem dX7_init_65 : decode cX7_init 65 = .ok (.aload_n 0, 1) := by decide +kernel
theorem dX7_init_66 : decode cX7_init 66 = .ok (.sipush 200, 3) := by decide +kernel
theorem dX7_init_69 : decode cX7_init 69 = .ok (.newarray .int, 2) := by decide +kernel
theorem dX7_init_71 : decode cX7_init 71 = .ok (.putfield 31, 3) := by decide +kernel
theorem dX7_init_74 : decode cX7_init 74 = .ok (.aload_n 0, 1) := by decide +kernel
theorem dX7_init_75 : decode cX7_init 75 = .ok (.bipush 60, 2) := by decide +kernel
theorem dX7_init_77 : decode cX7_init 77 = .ok (.newarray .int, 2) := by decide +kernel
theorem dX7_init_79 : decode cX7_init 79 = .ok (.putfield 34, 3) := by decide +kernel
theorem dX7_init_82 : decode cX7_init 82 = .ok (.aload_n 0, 1) := by decide +kernel
theorem dX7_init_83 : decode cX7_init 83 = .ok (.bipush 60, 2) := by decide +kernel
theorem dX7_init_85 : decode cX7_init 85 = .ok (.newarray .int, 2) := by decide +kernel
theorem dX7_init_87 : decode cX7_init 87 = .ok (.putfield 37, 3) := by decide +kernel
theorem dX7_init_90 : decode cX7_init 90 = .ok (.aload_n 0, 1) := by decide +kernel
theorem dX7_init_91 : decode cX7_init 91 = .ok (.bipush 65, 2) := by decide +kernel
theorem dX7_init_93 : decode cX7_init 93 = .ok (.newarray .boolean, 2) := by decide +kernel
theorem dX7_init_95 : decode cX7_init 95 = .ok (.putfield 40, 3) := by decide +kernel
theorem dX7_init_98 : decode cX7_init 98 = .ok (.aload_n 0, 1) := by decide +kernel
theorem dX7_init_99 : decode cX7_init 99 = .ok (.bipush 6, 2) := by decide +kernel
theorem dX7_init_101 : decode cX7_init 101 = .ok (.newarray .int, 2) := by decide +kernel
theorem dX7_init_103 : decode cX7_init 103 = .ok (.dup, 1) := by decide +kernel
theorem dX7_init_104 : decode cX7_init 104 = .ok (.iconst 0, 1) := by decide +kernel
theorem dX7_init_105 : decode cX7_init 105 = .ok (.bipush 60, 2) := by decide +kernel
theorem dX7_init_107 : decode cX7_init 107 = .ok (.iastore, 1) := by decide +kernel
theorem dX7_init_108 : decode cX7_init 108 = .ok (.dup, 1) := by decide +kernel
theorem dX7_init_109 : decode cX7_init 109 = .ok (.iconst 1, 1) := by decide +kernel
theorem dX7_init_110 : decode cX7_init 110 = .ok (.bipush 105, 2) := by decide +kernel
theorem dX7_init_112 : decode cX7_init 112 = .ok (.iastore, 1) := by decide +kernel
theorem dX7_init_113 : decode cX7_init 113 = .ok (.dup, 1) := by decide +kernel
theorem dX7_init_114 : decode cX7_init 114 = .ok (.iconst 2, 1) := by decide +kernel
theorem dX7_init_115 : decode cX7_init 115 = .ok (.bipush 110, 2) := by decide +kernel
theorem dX7_init_117 : decode cX7_init 117 = .ok (.iastore, 1) := by decide +kernel
theorem dX7_init_118 : decode cX7_init 118 = .ok (.dup, 1) := by decide +kernel
theorem dX7_init_119 : decode cX7_init 119 = .ok (.iconst 3, 1) := by decide +kernel
theorem dX7_init_120 : decode cX7_init 120 = .ok (.bipush 105, 2) := by decide +kernel
theorem dX7_init_122 : decode cX7_init 122 = .ok (.iastore, 1) := by decide +kernel
theorem dX7_init_123 : decode cX7_init 123 = .ok (.dup, 1) := by decide +kernel
theorem dX7_init_124 : decode cX7_init 124 = .ok (.iconst 4, 1) := by decide +kernel
theorem dX7_init_125 : decode cX7_init 125 = .ok (.bipush 116, 2) := by decide +kernel
theorem dX7_init_127 : decode cX7_init 127 = .ok (.iastore, 1) := by decide +kernel
theorem dX7_init_128 : decode cX7_init 128 = .ok (.dup, 1) := by decide +kernel
theorem dX7_init_129 : decode cX7_init 129 = .ok (.iconst 5, 1) := by decide +kernel
theorem dX7_init_130 : decode cX7_init 130 = .ok (.bipush 62, 2) := by decide +kernel
theorem dX7_init_132 : decode cX7_init 132 = .ok (.iastore, 1) := by decide +kernel
theorem dX7_init_133 : decode cX7_init 133 = .ok (.putfield 44, 3) := by decide +kernel
theorem dX7_init_136 : decode cX7_init 136 = .ok (.aload_n 0, 1) := by decide +kernel
theorem dX7_init_137 : decode cX7_init 137 = .ok (.bipush 8, 2) := by decide +kernel
theorem dX7_init_139 : decode cX7_init 139 = .ok (.newarray .int, 2) := by decide +kernel
theorem dX7_init_141 : decode cX7_init 141 = .ok (.dup, 1) := by decide +kernel
theorem dX7_init_142 : decode cX7_init 142 = .ok (.iconst 0, 1) := by decide +kernel
theorem dX7_init_143 : decode cX7_init 143 = .ok (.bipush 60, 2) := by decide +kernel
theorem dX7_init_145 : decode cX7_init 145 = .ok (.iastore, 1) := by decide +kernel
theorem dX7_init_146 : decode cX7_init 146 = .ok (.dup, 1) := by decide +kernel
theorem dX7_init_147 : decode cX7_init 147 = .ok (.iconst 1, 1) := by decide +kernel
theorem dX7_init_148 : decode cX7_init 148 = .ok (.bipush 99, 2) := by decide +kernel
theorem dX7_init_150 : decode cX7_init 150 = .ok (.iastore, 1) := by decide +kernel
theorem dX7_init_151 : decode cX7_init 151 = .ok (.dup, 1) := by decide +kernel
theorem dX7_init_152 : decode cX7_init 152 = .ok (.iconst 2, 1) := by decide +kernel
theorem dX7_init_153 : decode cX7_init 153 = .ok (.bipush 108, 2) := by decide +kernel
theorem dX7_init_155 : decode cX7_init 155 = .ok (.iastore, 1) := by decide +kernel
theorem dX7_init_156 : decode cX7_init 156 = .ok (.dup, 1) := by decide +kernel
theorem dX7_init_157 : decode cX7_init 157 = .ok (.iconst 3, 1) := by decide +kernel
theorem dX7_init_158 : decode cX7_init 158 = .ok (.bipush 105, 2) := by decide +kernel
theorem dX7_init_160 : decode cX7_init 160 = .ok (.iastore, 1) := by decide +kernel
theorem dX7_init_161 : decode cX7_init 161 = .ok (.dup, 1) := by decide +kernel
theorem dX7_init_162 : decode cX7_init 162 = .ok (.iconst 4, 1) := by decide +kernel
theorem dX7_init_163 : decode cX7_init 163 = .ok (.bipush 110, 2) := by decide +kernel
theorem dX7_init_165 : decode cX7_init 165 = .ok (.iastore, 1) := by decide +kernel
theorem dX7_init_166 : decode cX7_init 166 = .ok (.dup, 1) := by decide +kernel
theorem dX7_init_167 : decode cX7_init 167 = .ok (.iconst 5, 1) := by decide +kernel
theorem dX7_init_168 : decode cX7_init 168 = .ok (.bipush 105, 2) := by decide +kernel
theorem dX7_init_170 : decode cX7_init 170 = .ok (.iastore, 1) := by decide +kernel
theorem dX7_init_171 : decode cX7_init 171 = .ok (.dup, 1) := by decide +kernel
theorem dX7_init_172 : decode cX7_init 172 = .ok (.bipush 6, 2) := by decide +kernel
theorem dX7_init_174 : decode cX7_init 174 = .ok (.bipush 116, 2) := by decide +kernel
theorem dX7_init_176 : decode cX7_init 176 = .ok (.iastore, 1) := by decide +kernel
theorem dX7_init_177 : decode cX7_init 177 = .ok (.dup, 1) := by decide +kernel
theorem dX7_init_178 : decode cX7_init 178 = .ok (.bipush 7, 2) := by decide +kernel
theorem dX7_init_180 : decode cX7_init 180 = .ok (.bipush 62, 2) := by decide +kernel
theorem dX7_init_182 : decode cX7_init 182 = .ok (.iastore, 1) := by decide +kernel
theorem dX7_init_183 : decode cX7_init 183 = .ok (.putfield 47, 3) := by decide +kernel
theorem dX7_init_186 : decode cX7_init 186 = .ok (.aload_n 0, 1) := by decide +kernel
theorem dX7_init_187 : decode cX7_init 187 = .ok (.iconst 4, 1) := by decide +kernel
theorem dX7_init_188 : decode cX7_init 188 = .ok (.newarray .int, 2) := by decide +kernel
theorem dX7_init_190 : decode cX7_init 190 = .ok (.dup, 1) := by decide +kernel
theorem dX7_init_191 : decode cX7_init 191 = .ok (.iconst 0, 1) := by decide +kernel
theorem dX7_init_192 : decode cX7_init 192 = .ok (.bipush 67, 2) := by decide +kernel
theorem dX7_init_194 : decode cX7_init 194 = .ok (.iastore, 1) := by decide +kernel
theorem dX7_init_195 : decode cX7_init 195 = .ok (.dup, 1) := by decide +kernel
theorem dX7_init_196 : decode cX7_init 196 = .ok (.iconst 1, 1) := by decide +kernel
theorem dX7_init_197 : decode cX7_init 197 = .ok (.bipush 111, 2) := by decide +kernel
theorem dX7_init_199 : decode cX7_init 199 = .ok (.iastore, 1) := by decide +kernel
theorem dX7_init_200 : decode cX7_init 200 = .ok (.dup, 1) := by decide +kernel
theorem dX7_init_201 : decode cX7_init 201 = .ok (.iconst 2, 1) := by decide +kernel
theorem dX7_init_202 : decode cX7_init 202 = .ok (.bipush 100, 2) := by decide +kernel
theorem dX7_init_204 : decode cX7_init 204 = .ok (.iastore, 1) := by decide +kernel
theorem dX7_init_205 : decode cX7_init 205 = .ok (.dup, 1) := by decide +kernel
theorem dX7_init_206 : decode cX7_init 206 = .ok (.iconst 3, 1) := by decide +kernel
theorem dX7_init_207 : decode cX7_init 207 = .ok (.bipush 101, 2) := by decide +kernel
theorem dX7_init_209 : decode cX7_init 209 = .ok (.iastore, 1) := by decide +kernel
theorem dX7_init_210 : decode cX7_init 210 = .ok (.putfield 50, 3) := by decide +kernel
theorem dX7_init_213 : decode cX7_init 213 = .ok (.aload_n 0, 1) := by decide +kernel
theorem dX7_init_214 : decode cX7_init 214 = .ok (.bipush 13, 2) := by decide +kernel
theorem dX7_init_216 : decode cX7_init 216 = .ok (.newarray .int, 2) := by decide +kernel
theorem dX7_init_218 : decode cX7_init 218 = .ok (.dup, 1) := by decide +kernel
theorem dX7_init_219 : decode cX7_init 219 = .ok (.iconst 0, 1) := by decide +kernel
theorem dX7_init_220 : decode cX7_init 220 = .ok (.bipush 67, 2) := by decide +kernel
theorem dX7_init_222 : decode cX7_init 222 = .ok (.iastore, 1) := by decide +kernel
theorem dX7_init_223 : decode cX7_init 223 = .ok (.dup, 1) := by decide +kernel
theorem dX7_init_224 : decode cX7_init 224 = .ok (.iconst 1, 1) := by decide +kernel
theorem dX7_init_225 : decode cX7_init 225 = .ok (.bipush 111, 2) := by decide +kernel
theorem dX7_init_227 : decode cX7_init 227 = .ok (.iastore, 1) := by decide +kernel
theorem dX7_init_228 : decode cX7_init 228 = .ok (.dup, 1) := by decide +kernel
theorem dX7_init_229 : decode cX7_init 229 = .ok (.iconst 2, 1) := by decide +kernel
theorem dX7_init_230 : decode cX7_init 230 = .ok (.bipush 110, 2) := by decide +kernel
theorem dX7_init_232 : decode cX7_init 232 = .ok (.iastore, 1) := by decide +kernel
theorem dX7_init_233 : decode cX7_init 233 = .ok (.dup, 1) := by decide +kernel
theorem dX7_init_234 : decode cX7_init 234 = .ok (.iconst 3, 1) := by decide +kernel
theorem dX7_init_235 : decode cX7_init 235 = .ok (.bipush 115, 2) := by decide +kernel
theorem dX7_init_237 : decode cX7_init 237 = .ok (.iastore, 1) := by decide +kernel
theorem dX7_init_238 : decode cX7_init 238 = .ok (.dup, 1) := by decide +kernel
theorem dX7_init_239 : decode cX7_init 239 = .ok (.iconst 4, 1) := by decide +kernel
theorem dX7_init_240 : decode cX7_init 240 = .ok (.bipush 116, 2) := by decide +kernel
theorem dX7_init_242 : decode cX7_init 242 = .ok (.iastore, 1) := by decide +kernel
theorem dX7_init_243 : decode cX7_init 243 = .ok (.dup, 1) := by decide +kernel
theorem dX7_init_244 : decode cX7_init 244 = .ok (.iconst 5, 1) := by decide +kernel
theorem dX7_init_245 : decode cX7_init 245 = .ok (.bipush 97, 2) := by decide +kernel
theorem dX7_init_247 : decode cX7_init 247 = .ok (.iastore, 1) := by decide +kernel
theorem dX7_init_248 : decode cX7_init 248 = .ok (.dup, 1) := by decide +kernel
theorem dX7_init_249 : decode cX7_init 249 = .ok (.bipush 6, 2) := by decide +kernel
theorem dX7_init_251 : decode cX7_init 251 = .ok (.bipush 110, 2) := by decide +kernel
theorem dX7_init_253 : decode cX7_init 253 = .ok (.iastore, 1) := by decide +kernel
theorem dX7_init_254 : decode cX7_init 254 = .ok (.dup, 1) := by decide +kernel
theorem dX7_init_255 : decode cX7_init 255 = .ok (.bipush 7, 2) := by decide +kernel
theorem dX7_init_257 : decode cX7_init 257 = .ok (.bipush 116, 2) := by decide +kernel
theorem dX7_init_259 : decode cX7_init 259 = .ok (.iastore, 1) := by decide +kernel
theorem dX7_init_260 : decode cX7_init 260 = .ok (.dup, 1) := by decide +kernel
theorem dX7_init_261 : decode cX7_init 261 = .ok (.bipush 8, 2) := by decide +kernel
theorem dX7_init_263 : decode cX7_init 263 = .ok (.bipush 86, 2) := by decide +kernel
theorem dX7_init_265 : decode cX7_init 265 = .ok (.iastore, 1) := by decide +kernel
theorem dX7_init_266 : decode cX7_init 266 = .ok (.dup, 1) := by decide +kernel
theorem dX7_init_267 : decode cX7_init 267 = .ok (.bipush 9, 2) := by decide +kernel
theorem dX7_init_269 : decode cX7_init 269 = .ok (.bipush 97, 2) := by decide +kernel
theorem dX7_init_271 : decode cX7_init 271 = .ok (.iastore, 1) := by decide +kernel
theorem dX7_init_272 : decode cX7_init 272 = .ok (.dup, 1) := by decide +kernel
theorem dX7_init_273 : decode cX7_init 273 = .ok (.bipush 10, 2) := by decide +kernel
theorem dX7_init_275 : decode cX7_init 275 = .ok (.bipush 108, 2) := by decide +kernel
theorem dX7_init_277 : decode cX7_init 277 = .ok (.iastore, 1) := by decide +kernel
theorem dX7_init_278 : decode cX7_init 278 = .ok (.dup, 1) := by decide +kernel
theorem dX7_init_279 : decode cX7_init 279 = .ok (.bipush 11, 2) := by decide +kernel
theorem dX7_init_281 : decode cX7_init 281 = .ok (.bipush 117, 2) := by decide +kernel
theorem dX7_init_283 : decode cX7_init 283 = .ok (.iastore, 1) := by decide +kernel
theorem dX7_init_284 : decode cX7_init 284 = .ok (.dup, 1) := by decide +kernel
theorem dX7_init_285 : decode cX7_init 285 = .ok (.bipush 12, 2) := by decide +kernel
theorem dX7_init_287 : decode cX7_init 287 = .ok (.bipush 101, 2) := by decide +kernel
theorem dX7_init_289 : decode cX7_init 289 = .ok (.iastore, 1) := by decide +kernel
theorem dX7_init_290 : decode cX7_init 290 = .ok (.putfield 53, 3) := by decide +kernel
theorem dX7_init_293 : decode cX7_init 293 = .ok (.aload_n 0, 1) := by decide +kernel
theorem dX7_init_294 : decode cX7_init 294 = .ok (.bipush 32, 2) := by decide +kernel
theorem dX7_init_296 : decode cX7_init 296 = .ok (.newarray .int, 2) := by decide +kernel
theorem dX7_init_298 : decode cX7_init 298 = .ok (.putfield 56, 3) := by decide +kernel
theorem dX7_init_301 : decode cX7_init 301 = .ok (.return_, 1) := by decide +kernel
theorem dX7_put_0 : decode cX7_put 0 = .ok (.iload_n 1, 1) := by decide +kernel
theorem dX7_put_1 : decode cX7_put 1 = .ok (.iconst 1, 1) := by decide +kernel
theorem dX7_put_2 : decode cX7_put 2 = .ok (.if_icmp .eq 15, 3) := by decide +kernel
theorem dX7_put_5 : decode cX7_put 5 = .ok (.iload_n 1, 1) := by decide +kernel
theorem dX7_put_6 : decode cX7_put 6 = .ok (.iconst 2, 1) := by decide +kernel
theorem dX7_put_7 : decode cX7_put 7 = .ok (.if_icmp .eq 10, 3) := by decide +kernel
theorem dX7_put_10 : decode cX7_put 10 = .ok (.iload_n 1, 1) := by decide +kernel
theorem dX7_put_11 : decode cX7_put 11 = .ok (.iconst 4, 1) := by decide +kernel
theorem dX7_put_12 : decode cX7_put 12 = .ok (.if_icmp .eq 5, 3) := by decide +kernel
theorem dX7_put_15 : decode cX7_put 15 = .ok (.iconst (-1), 1) := by decide +kernel
theorem dX7_put_16 : decode cX7_put 16 = .ok (.ireturn, 1) := by decide +kernel
theorem dX7_put_17 : decode cX7_put 17 = .ok (.aload_n 0, 1) := by decide +kernel
theorem dX7_put_18 : decode cX7_put 18 = .ok (.getfield 59, 3) := by decide +kernel
theorem dX7_put_21 : decode cX7_put 21 = .ok (.iload_n 1, 1) := by decide +kernel
theorem dX7_put_22 : decode cX7_put 22 = .ok (.iadd, 1) := by decide +kernel
theorem dX7_put_23 : decode cX7_put 23 = .ok (.sipush 400, 3) := by decide +kernel
theorem dX7_put_26 : decode cX7_put 26 = .ok (.if_icmp .le 6, 3) := by decide +kernel
theorem dX7_put_29 : decode cX7_put 29 = .ok (.bipush (-2), 2) := by decide +kernel
theorem dX7_put_31 : decode cX7_put 31 = .ok (.ireturn, 1) := by decide +kernel
theorem dX7_put_32 : decode cX7_put 32 = .ok (.iload_n 1, 1) := by decide +kernel
theorem dX7_put_33 : decode cX7_put 33 = .ok (.iconst 1, 1) := by decide +kernel
theorem dX7_put_34 : decode cX7_put 34 = .ok (.isub, 1) := by decide +kernel
theorem dX7_put_35 : decode cX7_put 35 = .ok (.istore_n 3, 1) := by decide +kernel
theorem dX7_put_36 : decode cX7_put 36 = .ok (.iload_n 3, 1) := by decide +kernel
theorem dX7_put_37 : decode cX7_put 37 = .ok (.ifCond .lt 38, 3) := by decide +kernel
theorem dX7_put_40 : decode cX7_put 40 = .ok (.aload_n 0, 1) := by decide +kernel
theorem dX7_put_41 : decode cX7_put 41 = .ok (.getfield 7, 3) := by decide +kernel
theorem dX7_put_44 : decode cX7_put 44 = .ok (.aload_n 0, 1) := by decide +kernel
theorem dX7_put_45 : decode cX7_put 45 = .ok (.getfield 59, 3) := by decide +kernel
theorem dX7_put_48 : decode cX7_put 48 = .ok (.iload_n 2, 1) := by decide +kernel
theorem dX7_put_49 : decode cX7_put 49 = .ok (.bipush 8, 2) := by decide +kernel
theorem dX7_put_51 : decode cX7_put 51 = .ok (.iload_n 3, 1) := by decide +kernel
theorem dX7_put_52 : decode cX7_put 52 = .ok (.imul, 1) := by decide +kernel
theorem dX7_put_53 : decode cX7_put 53 = .ok (.ishr, 1) := by decide +kernel
theorem dX7_put_54 : decode cX7_put 54 = .ok (.sipush 255, 3) := by decide +kernel
theorem dX7_put_57 : decode cX7_put 57 = .ok (.iand, 1) := by decide +kernel
theorem dX7_put_58 : decode cX7_put 58 = .ok (.iastore, 1) := by decide +kernel
theorem dX7_put_59 : decode cX7_put 59 = .ok (.aload_n 0, 1) := by decide +kernel
theorem dX7_put_60 : decode cX7_put 60 = .ok (.dup, 1) := by decide +kernel
theorem dX7_put_61 : decode cX7_put 61 = .ok (.getfield 59, 3) := by decide +kernel
theorem dX7_put_64 : decode cX7_put 64 = .ok (.iconst 1, 1) := by decide +kernel
theorem dX7_put_65 : decode cX7_put 65 = .ok (.iadd, 1) := by decide +kernel
theorem dX7_put_66 : decode cX7_put 66 = .ok (.putfield 59, 3) := by decide +kernel
theorem dX7_put_69 : decode cX7_put 69 = .ok (.iinc 3 (-1), 3) := by decide +kernel
theorem dX7_put_72 : decode cX7_put 72 = .ok (.goto (-36), 3) := by decide +kernel
theorem dX7_put_75 : decode cX7_put 75 = .ok (.aload_n 0, 1) := by decide +kernel
theorem dX7_put_76 : decode cX7_put 76 = .ok (.getfield 59, 3) := by decide +kernel
theorem dX7_put_79 : decode cX7_put 79 = .ok (.ireturn, 1) := by decide +kernel
theorem dX7_text_0 : decode cX7_text 0 = .ok (.iload_n 1, 1) := by decide +kernel
theorem dX7_text_1 : decode cX7_text 1 = .ok (.ifCond .lt 9, 3) := by decide +kernel
theorem dX7_text_4 : decode cX7_text 4 = .ok (.iload_n 1, 1) := by decide +kernel
theorem dX7_text_5 : decode cX7_text 5 = .ok (.bipush 8, 2) := by decide +kernel
theorem dX7_text_7 : decode cX7_text 7 = .ok (.if_icmp .le 5, 3) := by decide +kernel
theorem dX7_text_10 : decode cX7_text 10 = .ok (.iconst (-1), 1) := by decide +kernel
theorem dX7_text_11 : decode cX7_text 11 = .ok (.ireturn, 1) := by decide +kernel
theorem dX7_text_12 : decode cX7_text 12 = .ok (.aload_n 0, 1) := by decide +kernel
theorem dX7_text_13 : decode cX7_text 13 = .ok (.getfield 59, 3) := by decide +kernel
theorem dX7_text_16 : decode cX7_text 16 = .ok (.iconst 3, 1) := by decide +kernel
theorem dX7_text_17 : decode cX7_text 17 = .ok (.iadd, 1) := by decide +kernel
theorem dX7_text_18 : decode cX7_text 18 = .ok (.iload_n 1, 1) := by decide +kernel
theorem dX7_text_19 : decode cX7_text 19 = .ok (.iadd, 1) := by decide +kernel
theorem dX7_text_20 : decode cX7_text 20 = .ok (.sipush 400, 3) := by decide +kernel
theorem dX7_text_23 : decode cX7_text 23 = .ok (.if_icmp .le 6, 3) := by decide +kernel
theorem dX7_text_26 : decode cX7_text 26 = .ok (.bipush (-2), 2) := by decide +kernel
theorem dX7_text_28 : decode cX7_text 28 = .ok (.ireturn, 1) := by decide +kernel
theorem dX7_text_29 : decode cX7_text 29 = .ok (.aload_n 0, 1) := by decide +kernel
theorem dX7_text_30 : decode cX7_text 30 = .ok (.getfield 7, 3) := by decide +kernel
theorem dX7_text_33 : decode cX7_text 33 = .ok (.aload_n 0, 1) := by decide +kernel
theorem dX7_text_34 : decode cX7_text 34 = .ok (.getfield 59, 3) := by decide +kernel
theorem dX7_text_37 : decode cX7_text 37 = .ok (.iconst 1, 1) := by decide +kernel
theorem dX7_text_38 : decode cX7_text 38 = .ok (.iastore, 1) := by decide +kernel
theorem dX7_text_39 : decode cX7_text 39 = .ok (.aload_n 0, 1) := by decide +kernel
theorem dX7_text_40 : decode cX7_text 40 = .ok (.getfield 7, 3) := by decide +kernel
theorem dX7_text_43 : decode cX7_text 43 = .ok (.aload_n 0, 1) := by decide +kernel
theorem dX7_text_44 : decode cX7_text 44 = .ok (.getfield 59, 3) := by decide +kernel
theorem dX7_text_47 : decode cX7_text 47 = .ok (.iconst 1, 1) := by decide +kernel
theorem dX7_text_48 : decode cX7_text 48 = .ok (.iadd, 1) := by decide +kernel
theorem dX7_text_49 : decode cX7_text 49 = .ok (.iconst 0, 1) := by decide +kernel
theorem dX7_text_50 : decode cX7_text 50 = .ok (.iastore, 1) := by decide +kernel
theorem dX7_text_51 : decode cX7_text 51 = .ok (.aload_n 0, 1) := by decide +kernel
theorem dX7_text_52 : decode cX7_text 52 = .ok (.getfield 7, 3) := by decide +kernel
theorem dX7_text_55 : decode cX7_text 55 = .ok (.aload_n 0, 1) := by decide +kernel
theorem dX7_text_56 : decode cX7_text 56 = .ok (.getfield 59, 3) := by decide +kernel
theorem dX7_text_59 : decode cX7_text 59 = .ok (.iconst 2, 1) := by decide +kernel
theorem dX7_text_60 : decode cX7_text 60 = .ok (.iadd, 1) := by decide +kernel
theorem dX7_text_61 : decode cX7_text 61 = .ok (.iload_n 1, 1) := by decide +kernel
theorem dX7_text_62 : decode cX7_text 62 = .ok (.iastore, 1) := by decide +kernel
theorem dX7_text_63 : decode cX7_text 63 = .ok (.iconst 0, 1) := by decide +kernel
theorem dX7_text_64 : decode cX7_text 64 = .ok (.istore 4, 2) := by decide +kernel
theorem dX7_text_66 : decode cX7_text 66 = .ok (.iload 4, 2) := by decide +kernel
theorem dX7_text_68 : decode cX7_text 68 = .ok (.iload_n 1, 1) := by decide +kernel
theorem dX7_text_69 : decode cX7_text 69 = .ok (.if_icmp .ge 35, 3) := by decide +kernel
theorem dX7_text_72 : decode cX7_text 72 = .ok (.aload_n 0, 1) := by decide +kernel
theorem dX7_text_73 : decode cX7_text 73 = .ok (.getfield 7, 3) := by decide +kernel
theorem dX7_text_76 : decode cX7_text 76 = .ok (.aload_n 0, 1) := by decide +kernel
theorem dX7_text_77 : decode cX7_text 77 = .ok (.getfield 59, 3) := by decide +kernel
theorem dX7_text_80 : decode cX7_text 80 = .ok (.iconst 3, 1) := by decide +kernel
theorem dX7_text_81 : decode cX7_text 81 = .ok (.iadd, 1) := by decide +kernel
theorem dX7_text_82 : decode cX7_text 82 = .ok (.iload 4, 2) := by decide +kernel
theorem dX7_text_84 : decode cX7_text 84 = .ok (.iadd, 1) := by decide +kernel
theorem dX7_text_85 : decode cX7_text 85 = .ok (.lload_n 2, 1) := by decide +kernel
theorem dX7_text_86 : decode cX7_text 86 = .ok (.bipush 8, 2) := by decide +kernel
theorem dX7_text_88 : decode cX7_text 88 = .ok (.iload 4, 2) := by decide +kernel
theorem dX7_text_90 : decode cX7_text 90 = .ok (.imul, 1) := by decide +kernel
theorem dX7_text_91 : decode cX7_text 91 = .ok (.lshr, 1) := by decide +kernel
theorem dX7_text_92 : decode cX7_text 92 = .ok (.l2i, 1) := by decide +kernel
theorem dX7_text_93 : decode cX7_text 93 = .ok (.sipush 255, 3) := by decide +kernel
theorem dX7_text_96 : decode cX7_text 96 = .ok (.iand, 1) := by decide +kernel
theorem dX7_text_97 : decode cX7_text 97 = .ok (.iastore, 1) := by decide +kernel
theorem dX7_text_98 : decode cX7_text 98 = .ok (.iinc 4 1, 3) := by decide +kernel
theorem dX7_text_101 : decode cX7_text 101 = .ok (.goto (-35), 3) := by decide +kernel
theorem dX7_text_104 : decode cX7_text 104 = .ok (.aload_n 0, 1) := by decide +kernel
theorem dX7_text_105 : decode cX7_text 105 = .ok (.dup, 1) := by decide +kernel
theorem dX7_text_106 : decode cX7_text 106 = .ok (.getfield 59, 3) := by decide +kernel
theorem dX7_text_109 : decode cX7_text 109 = .ok (.iconst 3, 1) := by decide +kernel
theorem dX7_text_110 : decode cX7_text 110 = .ok (.iload_n 1, 1) := by decide +kernel
theorem dX7_text_111 : decode cX7_text 111 = .ok (.iadd, 1) := by decide +kernel
theorem dX7_text_112 : decode cX7_text 112 = .ok (.iadd, 1) := by decide +kernel
theorem dX7_text_113 : decode cX7_text 113 = .ok (.putfield 59, 3) := by decide +kernel
theorem dX7_text_116 : decode cX7_text 116 = .ok (.aload_n 0, 1) := by decide +kernel
theorem dX7_text_117 : decode cX7_text 117 = .ok (.getfield 59, 3) := by decide +kernel
theorem dX7_text_120 : decode cX7_text 120 = .ok (.ireturn, 1) := by decide +kernel
theorem dX7_patch_0 : decode cX7_patch 0 = .ok (.iload_n 1, 1) := by decide +kernel
theorem dX7_patch_1 : decode cX7_patch 1 = .ok (.ifCond .lt 11, 3) := by decide +kernel
theorem dX7_patch_4 : decode cX7_patch 4 = .ok (.iload_n 1, 1) := by decide +kernel
theorem dX7_patch_5 : decode cX7_patch 5 = .ok (.aload_n 0, 1) := by decide +kernel
theorem dX7_patch_6 : decode cX7_patch 6 = .ok (.getfield 59, 3) := by decide +kernel
theorem dX7_patch_9 : decode cX7_patch 9 = .ok (.if_icmp .lt 5, 3) := by decide +kernel
theorem dX7_patch_12 : decode cX7_patch 12 = .ok (.iconst (-1), 1) := by decide +kernel
theorem dX7_patch_13 : decode cX7_patch 13 = .ok (.ireturn, 1) := by decide +kernel
theorem dX7_patch_14 : decode cX7_patch 14 = .ok (.aload_n 0, 1) := by decide +kernel
theorem dX7_patch_15 : decode cX7_patch 15 = .ok (.getfield 7, 3) := by decide +kernel
theorem dX7_patch_18 : decode cX7_patch 18 = .ok (.iload_n 1, 1) := by decide +kernel
theorem dX7_patch_19 : decode cX7_patch 19 = .ok (.iaload, 1) := by decide +kernel
theorem dX7_patch_20 : decode cX7_patch 20 = .ok (.istore_n 3, 1) := by decide +kernel
theorem dX7_patch_21 : decode cX7_patch 21 = .ok (.aload_n 0, 1) := by decide +kernel
theorem dX7_patch_22 : decode cX7_patch 22 = .ok (.getfield 7, 3) := by decide +kernel
theorem dX7_patch_25 : decode cX7_patch 25 = .ok (.iload_n 1, 1) := by decide +kernel
theorem dX7_patch_26 : decode cX7_patch 26 = .ok (.iload_n 2, 1) := by decide +kernel
theorem dX7_patch_27 : decode cX7_patch 27 = .ok (.sipush 255, 3) := by decide +kernel
theorem dX7_patch_30 : decode cX7_patch 30 = .ok (.iand, 1) := by decide +kernel
theorem dX7_patch_31 : decode cX7_patch 31 = .ok (.iastore, 1) := by decide +kernel
theorem dX7_patch_32 : decode cX7_patch 32 = .ok (.iload_n 3, 1) := by decide +kernel
theorem dX7_patch_33 : decode cX7_patch 33 = .ok (.ireturn, 1) := by decide +kernel
theorem dX7_missing_0 : decode cX7_missing 0 = .ok (.iload_n 1, 1) := by decide +kernel
theorem dX7_missing_1 : decode cX7_missing 1 = .ok (.ifCond .lt 18, 3) := by decide +kernel
theorem dX7_missing_4 : decode cX7_missing 4 = .ok (.iload_n 2, 1) := by decide +kernel
theorem dX7_missing_5 : decode cX7_missing 5 = .ok (.iconst 1, 1) := by decide +kernel
theorem dX7_missing_6 : decode cX7_missing 6 = .ok (.if_icmp .lt 13, 3) := by decide +kernel
theorem dX7_missing_9 : decode cX7_missing 9 = .ok (.iload_n 1, 1) := by decide +kernel
theorem dX7_missing_10 : decode cX7_missing 10 = .ok (.aload_n 0, 1) := by decide +kernel
theorem dX7_missing_11 : decode cX7_missing 11 = .ok (.getfield 59, 3) := by decide +kernel
theorem dX7_missing_14 : decode cX7_missing 14 = .ok (.iload_n 2, 1) := by decide +kernel
theorem dX7_missing_15 : decode cX7_missing 15 = .ok (.isub, 1) := by decide +kernel
theorem dX7_missing_16 : decode cX7_missing 16 = .ok (.if_icmp .le 7, 3) := by decide +kernel
theorem dX7_missing_19 : decode cX7_missing 19 = .ok (.iconst 1, 1) := by decide +kernel
theorem dX7_missing_20 : decode cX7_missing 20 = .ok (.goto 4, 3) := by decide +kernel
theorem dX7_missing_23 : decode cX7_missing 23 = .ok (.iconst 0, 1) := by decide +kernel
theorem dX7_missing_24 : decode cX7_missing 24 = .ok (.ireturn, 1) := by decide +kernel
theorem dX7_take_0 : decode cX7_take 0 = .ok (.aload_n 0, 1) := by decide +kernel
theorem dX7_take_1 : decode cX7_take 1 = .ok (.dup, 1) := by decide +kernel
theorem dX7_take_2 : decode cX7_take 2 = .ok (.getfield 59, 3) := by decide +kernel
theorem dX7_take_5 : decode cX7_take 5 = .ok (.iload_n 2, 1) := by decide +kernel
theorem dX7_take_6 : decode cX7_take 6 = .ok (.isub, 1) := by decide +kernel
theorem dX7_take_7 : decode cX7_take 7 = .ok (.putfield 59, 3) := by decide +kernel
theorem dX7_take_10 : decode cX7_take 10 = .ok (.iload_n 1, 1) := by decide +kernel
theorem dX7_take_11 : decode cX7_take 11 = .ok (.istore_n 3, 1) := by decide +kernel
theorem dX7_take_12 : decode cX7_take 12 = .ok (.iload_n 3, 1) := by decide +kernel
theorem dX7_take_13 : decode cX7_take 13 = .ok (.aload_n 0, 1) := by decide +kernel
theorem dX7_take_14 : decode cX7_take 14 = .ok (.getfield 59, 3) := by decide +kernel
theorem dX7_take_17 : decode cX7_take 17 = .ok (.if_icmp .ge 23, 3) := by decide +kernel
theorem dX7_take_20 : decode cX7_take 20 = .ok (.aload_n 0, 1) := by decide +kernel
theorem dX7_take_21 : decode cX7_take 21 = .ok (.getfield 7, 3) := by decide +kernel
theorem dX7_take_24 : decode cX7_take 24 = .ok (.iload_n 3, 1) := by decide +kernel
theorem dX7_take_25 : decode cX7_take 25 = .ok (.aload_n 0, 1) := by decide +kernel
theorem dX7_take_26 : decode cX7_take 26 = .ok (.getfield 7, 3) := by decide +kernel
theorem dX7_take_29 : decode cX7_take 29 = .ok (.iload_n 3, 1) := by decide +kernel
theorem dX7_take_30 : decode cX7_take 30 = .ok (.iload_n 2, 1) := by decide +kernel
theorem dX7_take_31 : decode cX7_take 31 = .ok (.iadd, 1) := by decide +kernel
theorem dX7_take_32 : decode cX7_take 32 = .ok (.iaload, 1) := by decide +kernel
theorem dX7_take_33 : decode cX7_take 33 = .ok (.iastore, 1) := by decide +kernel
theorem dX7_take_34 : decode cX7_take 34 = .ok (.iinc 3 1, 3) := by decide +kernel
theorem dX7_take_37 : decode cX7_take 37 = .ok (.goto (-25), 3) := by decide +kernel
theorem dX7_take_40 : decode cX7_take 40 = .ok (.return_, 1) := by decide +kernel
theorem dX7_cut_0 : decode cX7_cut 0 = .ok (.aload_n 0, 1) := by decide +kernel
theorem dX7_cut_1 : decode cX7_cut 1 = .ok (.iload_n 1, 1) := by decide +kernel
theorem dX7_cut_2 : decode cX7_cut 2 = .ok (.iload_n 2, 1) := by decide +kernel
theorem dX7_cut_3 : decode cX7_cut 3 = .ok (.invokevirtual 63, 3) := by decide +kernel
theorem dX7_cut_6 : decode cX7_cut 6 = .ok (.ifCond .eq 5, 3) := by decide +kernel
theorem dX7_cut_9 : decode cX7_cut 9 = .ok (.iconst (-1), 1) := by decide +kernel
theorem dX7_cut_10 : decode cX7_cut 10 = .ok (.ireturn, 1) := by decide +kernel
theorem dX7_cut_11 : decode cX7_cut 11 = .ok (.aload_n 0, 1) := by decide +kernel
theorem dX7_cut_12 : decode cX7_cut 12 = .ok (.iload_n 1, 1) := by decide +kernel
theorem dX7_cut_13 : decode cX7_cut 13 = .ok (.iload_n 2, 1) := by decide +kernel
theorem dX7_cut_14 : decode cX7_cut 14 = .ok (.invokevirtual 67, 3) := by decide +kernel
theorem dX7_cut_17 : decode cX7_cut 17 = .ok (.aload_n 0, 1) := by decide +kernel
theorem dX7_cut_18 : decode cX7_cut 18 = .ok (.getfield 59, 3) := by decide +kernel
theorem dX7_cut_21 : decode cX7_cut 21 = .ok (.ireturn, 1) := by decide +kernel
theorem dX7_twice_0 : decode cX7_twice 0 = .ok (.aload_n 0, 1) := by decide +kernel
theorem dX7_twice_1 : decode cX7_twice 1 = .ok (.iload_n 1, 1) := by decide +kernel
theorem dX7_twice_2 : decode cX7_twice 2 = .ok (.iload_n 2, 1) := by decide +kernel
theorem dX7_twice_3 : decode cX7_twice 3 = .ok (.invokevirtual 63, 3) := by decide +kernel
theorem dX7_twice_6 : decode cX7_twice 6 = .ok (.ifCond .eq 5, 3) := by decide +kernel
theorem dX7_twice_9 : decode cX7_twice 9 = .ok (.iconst (-1), 1) := by decide +kernel
theorem dX7_twice_10 : decode cX7_twice 10 = .ok (.ireturn, 1) := by decide +kernel
theorem dX7_twice_11 : decode cX7_twice 11 = .ok (.aload_n 0, 1) := by decide +kernel
theorem dX7_twice_12 : decode cX7_twice 12 = .ok (.getfield 59, 3) := by decide +kernel
theorem dX7_twice_15 : decode cX7_twice 15 = .ok (.iload_n 2, 1) := by decide +kernel
theorem dX7_twice_16 : decode cX7_twice 16 = .ok (.iadd, 1) := by decide +kernel
theorem dX7_twice_17 : decode cX7_twice 17 = .ok (.sipush 400, 3) := by decide +kernel
theorem dX7_twice_20 : decode cX7_twice 20 = .ok (.if_icmp .le 6, 3) := by decide +kernel
theorem dX7_twice_23 : decode cX7_twice 23 = .ok (.bipush (-2), 2) := by decide +kernel
theorem dX7_twice_25 : decode cX7_twice 25 = .ok (.ireturn, 1) := by decide +kernel
theorem dX7_twice_26 : decode cX7_twice 26 = .ok (.aload_n 0, 1) := by decide +kernel
theorem dX7_twice_27 : decode cX7_twice 27 = .ok (.getfield 59, 3) := by decide +kernel
theorem dX7_twice_30 : decode cX7_twice 30 = .ok (.iconst 1, 1) := by decide +kernel
theorem dX7_twice_31 : decode cX7_twice 31 = .ok (.isub, 1) := by decide +kernel
theorem dX7_twice_32 : decode cX7_twice 32 = .ok (.istore_n 3, 1) := by decide +kernel
theorem dX7_twice_33 : decode cX7_twice 33 = .ok (.iload_n 3, 1) := by decide +kernel
theorem dX7_twice_34 : decode cX7_twice 34 = .ok (.iload_n 1, 1) := by decide +kernel
theorem dX7_twice_35 : decode cX7_twice 35 = .ok (.iload_n 2, 1) := by decide +kernel
theorem dX7_twice_36 : decode cX7_twice 36 = .ok (.iadd, 1) := by decide +kernel
theorem dX7_twice_37 : decode cX7_twice 37 = .ok (.if_icmp .lt 23, 3) := by decide +kernel
theorem dX7_twice_40 : decode cX7_twice 40 = .ok (.aload_n 0, 1) := by decide +kernel
theorem dX7_twice_41 : decode cX7_twice 41 = .ok (.getfield 7, 3) := by decide +kernel
theorem dX7_twice_44 : decode cX7_twice 44 = .ok (.iload_n 3, 1) := by decide +kernel
theorem dX7_twice_45 : decode cX7_twice 45 = .ok (.iload_n 2, 1) := by decide +kernel
theorem dX7_twice_46 : decode cX7_twice 46 = .ok (.iadd, 1) := by decide +kernel
theorem dX7_twice_47 : decode cX7_twice 47 = .ok (.aload_n 0, 1) := by decide +kernel
theorem dX7_twice_48 : decode cX7_twice 48 = .ok (.getfield 7, 3) := by decide +kernel
theorem dX7_twice_51 : decode cX7_twice 51 = .ok (.iload_n 3, 1) := by decide +kernel
theorem dX7_twice_52 : decode cX7_twice 52 = .ok (.iaload, 1) := by decide +kernel
theorem dX7_twice_53 : decode cX7_twice 53 = .ok (.iastore, 1) := by decide +kernel
theorem dX7_twice_54 : decode cX7_twice 54 = .ok (.iinc 3 (-1), 3) := by decide +kernel
theorem dX7_twice_57 : decode cX7_twice 57 = .ok (.goto (-24), 3) := by decide +kernel
theorem dX7_twice_60 : decode cX7_twice 60 = .ok (.iconst 0, 1) := by decide +kernel
theorem dX7_twice_61 : decode cX7_twice 61 = .ok (.istore_n 3, 1) := by decide +kernel
theorem dX7_twice_62 : decode cX7_twice 62 = .ok (.iload_n 3, 1) := by decide +kernel
theorem dX7_twice_63 : decode cX7_twice 63 = .ok (.iload_n 2, 1) := by decide +kernel
theorem dX7_twice_64 : decode cX7_twice 64 = .ok (.if_icmp .ge 27, 3) := by decide +kernel
theorem dX7_twice_67 : decode cX7_twice 67 = .ok (.aload_n 0, 1) := by decide +kernel
theorem dX7_twice_68 : decode cX7_twice 68 = .ok (.getfield 7, 3) := by decide +kernel
theorem dX7_twice_71 : decode cX7_twice 71 = .ok (.iload_n 1, 1) := by decide +kernel
theorem dX7_twice_72 : decode cX7_twice 72 = .ok (.iload_n 2, 1) := by decide +kernel
theorem dX7_twice_73 : decode cX7_twice 73 = .ok (.iadd, 1) := by decide +kernel
theorem dX7_twice_74 : decode cX7_twice 74 = .ok (.iload_n 3, 1) := by decide +kernel
theorem dX7_twice_75 : decode cX7_twice 75 = .ok (.iadd, 1) := by decide +kernel
theorem dX7_twice_76 : decode cX7_twice 76 = .ok (.aload_n 0, 1) := by decide +kernel
theorem dX7_twice_77 : decode cX7_twice 77 = .ok (.getfield 7, 3) := by decide +kernel
theorem dX7_twice_80 : decode cX7_twice 80 = .ok (.iload_n 1, 1) := by decide +kernel
theorem dX7_twice_81 : decode cX7_twice 81 = .ok (.iload_n 3, 1) := by decide +kernel
theorem dX7_twice_82 : decode cX7_twice 82 = .ok (.iadd, 1) := by decide +kernel
theorem dX7_twice_83 : decode cX7_twice 83 = .ok (.iaload, 1) := by decide +kernel
theorem dX7_twice_84 : decode cX7_twice 84 = .ok (.iastore, 1) := by decide +kernel
theorem dX7_twice_85 : decode cX7_twice 85 = .ok (.iinc 3 1, 3) := by decide +kernel
theorem dX7_twice_88 : decode cX7_twice 88 = .ok (.goto (-26), 3) := by decide +kernel
theorem dX7_twice_91 : decode cX7_twice 91 = .ok (.aload_n 0, 1) := by decide +kernel
theorem dX7_twice_92 : decode cX7_twice 92 = .ok (.dup, 1) := by decide +kernel
theorem dX7_twice_93 : decode cX7_twice 93 = .ok (.getfield 59, 3) := by decide +kernel
theorem dX7_twice_96 : decode cX7_twice 96 = .ok (.iload_n 2, 1) := by decide +kernel
theorem dX7_twice_97 : decode cX7_twice 97 = .ok (.iadd, 1) := by decide +kernel
theorem dX7_twice_98 : decode cX7_twice 98 = .ok (.putfield 59, 3) := by decide +kernel
theorem dX7_twice_101 : decode cX7_twice 101 = .ok (.aload_n 0, 1) := by decide +kernel
theorem dX7_twice_102 : decode cX7_twice 102 = .ok (.getfield 59, 3) := by decide +kernel
theorem dX7_twice_105 : decode cX7_twice 105 = .ok (.ireturn, 1) := by decide +kernel
theorem dX7_clear_0 : decode cX7_clear 0 = .ok (.aload_n 0, 1) := by decide +kernel
theorem dX7_clear_1 : decode cX7_clear 1 = .ok (.getfield 59, 3) := by decide +kernel
theorem dX7_clear_4 : decode cX7_clear 4 = .ok (.istore_n 1, 1) := by decide +kernel
theorem dX7_clear_5 : decode cX7_clear 5 = .ok (.aload_n 0, 1) := by decide +kernel
theorem dX7_clear_6 : decode cX7_clear 6 = .ok (.iconst 0, 1) := by decide +kernel
theorem dX7_clear_7 : decode cX7_clear 7 = .ok (.putfield 59, 3) := by decide +kernel
theorem dX7_clear_10 : decode cX7_clear 10 = .ok (.iload_n 1, 1) := by decide +kernel
theorem dX7_clear_11 : decode cX7_clear 11 = .ok (.ireturn, 1) := by decide +kernel
theorem dX7_fail_0 : decode cX7_fail 0 = .ok (.aload_n 0, 1) := by decide +kernel
theorem dX7_fail_1 : decode cX7_fail 1 = .ok (.getfield 71, 3) := by decide +kernel
theorem dX7_fail_4 : decode cX7_fail 4 = .ok (.ifCond .ne 13, 3) := by decide +kernel
theorem dX7_fail_7 : decode cX7_fail 7 = .ok (.aload_n 0, 1) := by decide +kernel
theorem dX7_fail_8 : decode cX7_fail 8 = .ok (.iload_n 1, 1) := by decide +kernel
theorem dX7_fail_9 : decode cX7_fail 9 = .ok (.putfield 71, 3) := by decide +kernel
theorem dX7_fail_12 : decode cX7_fail 12 = .ok (.aload_n 0, 1) := by decide +kernel
theorem dX7_fail_13 : decode cX7_fail 13 = .ok (.iload_n 2, 1) := by decide +kernel
theorem dX7_fail_14 : decode cX7_fail 14 = .ok (.putfield 74, 3) := by decide +kernel
theorem dX7_fail_17 : decode cX7_fail 17 = .ok (.iconst 0, 1) := by decide +kernel
theorem dX7_fail_18 : decode cX7_fail 18 = .ok (.ireturn, 1) := by decide +kernel
theorem dX7_u_0 : decode cX7_u 0 = .ok (.lconst 0, 1) := by decide +kernel
theorem dX7_u_1 : decode cX7_u 1 = .ok (.lstore_n 2, 1) := by decide +kernel
theorem dX7_u_2 : decode cX7_u 2 = .ok (.iconst 0, 1) := by decide +kernel
theorem dX7_u_3 : decode cX7_u 3 = .ok (.istore 4, 2) := by decide +kernel
theorem dX7_u_5 : decode cX7_u 5 = .ok (.iload 4, 2) := by decide +kernel
theorem dX7_u_7 : decode cX7_u 7 = .ok (.iload_n 1, 1) := by decide +kernel
theorem dX7_u_8 : decode cX7_u 8 = .ok (.if_icmp .ge 69, 3) := by decide +kernel
theorem dX7_u_11 : decode cX7_u 11 = .ok (.aload_n 0, 1) := by decide +kernel
theorem dX7_u_12 : decode cX7_u 12 = .ok (.getfield 71, 3) := by decide +kernel
theorem dX7_u_15 : decode cX7_u 15 = .ok (.ifCond .ne 62, 3) := by decide +kernel
theorem dX7_u_18 : decode cX7_u 18 = .ok (.aload_n 0, 1) := by decide +kernel
theorem dX7_u_19 : decode cX7_u 19 = .ok (.getfield 77, 3) := by decide +kernel
theorem dX7_u_22 : decode cX7_u 22 = .ok (.aload_n 0, 1) := by decide +kernel
theorem dX7_u_23 : decode cX7_u 23 = .ok (.getfield 80, 3) := by decide +kernel
theorem dX7_u_26 : decode cX7_u 26 = .ok (.if_icmp .lt 18, 3) := by decide +kernel
theorem dX7_u_29 : decode cX7_u 29 = .ok (.aload_n 0, 1) := by decide +kernel
theorem dX7_u_30 : decode cX7_u 30 = .ok (.aload_n 0, 1) := by decide +kernel
theorem dX7_u_31 : decode cX7_u 31 = .ok (.getfield 83, 3) := by decide +kernel
theorem dX7_u_34 : decode cX7_u 34 = .ok (.aload_n 0, 1) := by decide +kernel
theorem dX7_u_35 : decode cX7_u 35 = .ok (.getfield 86, 3) := by decide +kernel
theorem dX7_u_38 : decode cX7_u 38 = .ok (.invokevirtual 89, 3) := by decide +kernel
theorem dX7_u_41 : decode cX7_u 41 = .ok (.pop, 1) := by decide +kernel
theorem dX7_u_42 : decode cX7_u 42 = .ok (.lconst 0, 1) := by decide +kernel
theorem dX7_u_43 : decode cX7_u 43 = .ok (.lreturn, 1) := by decide +kernel
theorem dX7_u_44 : decode cX7_u 44 = .ok (.ldc2_w 92, 3) := by decide +kernel
theorem dX7_u_47 : decode cX7_u 47 = .ok (.lload_n 2, 1) := by decide +kernel
theorem dX7_u_48 : decode cX7_u 48 = .ok (.lmul, 1) := by decide +kernel
theorem dX7_u_49 : decode cX7_u 49 = .ok (.aload_n 0, 1) := by decide +kernel
theorem dX7_u_50 : decode cX7_u 50 = .ok (.getfield 7, 3) := by decide +kernel
theorem dX7_u_53 : decode cX7_u 53 = .ok (.aload_n 0, 1) := by decide +kernel
theorem dX7_u_54 : decode cX7_u 54 = .ok (.getfield 77, 3) := by decide +kernel
theorem dX7_u_57 : decode cX7_u 57 = .ok (.iaload, 1) := by decide +kernel
theorem dX7_u_58 : decode cX7_u 58 = .ok (.i2l, 1) := by decide +kernel
theorem dX7_u_59 : decode cX7_u 59 = .ok (.ladd, 1) := by decide +kernel
theorem dX7_u_60 : decode cX7_u 60 = .ok (.lstore_n 2, 1) := by decide +kernel
theorem dX7_u_61 : decode cX7_u 61 = .ok (.aload_n 0, 1) := by decide +kernel
theorem dX7_u_62 : decode cX7_u 62 = .ok (.dup, 1) := by decide +kernel
theorem dX7_u_63 : decode cX7_u 63 = .ok (.getfield 77, 3) := by decide +kernel
theorem dX7_u_66 : decode cX7_u 66 = .ok (.iconst 1, 1) := by decide +kernel
theorem dX7_u_67 : decode cX7_u 67 = .ok (.iadd, 1) := by decide +kernel
theorem dX7_u_68 : decode cX7_u 68 = .ok (.putfield 77, 3) := by decide +kernel
theorem dX7_u_71 : decode cX7_u 71 = .ok (.iinc 4 1, 3) := by decide +kernel
theorem dX7_u_74 : decode cX7_u 74 = .ok (.goto (-69), 3) := by decide +kernel
theorem dX7_u_77 : decode cX7_u 77 = .ok (.aload_n 0, 1) := by decide +kernel
theorem dX7_u_78 : decode cX7_u 78 = .ok (.getfield 71, 3) := by decide +kernel
theorem dX7_u_81 : decode cX7_u 81 = .ok (.ifCond .ne 7, 3) := by decide +kernel
theorem dX7_u_84 : decode cX7_u 84 = .ok (.lload_n 2, 1) := by decide +kernel
theorem dX7_u_85 : decode cX7_u 85 = .ok (.goto 4, 3) := by decide +kernel
theorem dX7_u_88 : decode cX7_u 88 = .ok (.lconst 0, 1) := by decide +kernel
theorem dX7_u_89 : decode cX7_u 89 = .ok (.lreturn, 1) := by decide +kernel
theorem dX7_u1_0 : decode cX7_u1 0 = .ok (.aload_n 0, 1) := by decide +kernel
theorem dX7_u1_1 : decode cX7_u1 1 = .ok (.iconst 1, 1) := by decide +kernel
theorem dX7_u1_2 : decode cX7_u1 2 = .ok (.invokevirtual 94, 3) := by decide +kernel
theorem dX7_u1_5 : decode cX7_u1 5 = .ok (.l2i, 1) := by decide +kernel
theorem dX7_u1_6 : decode cX7_u1 6 = .ok (.ireturn, 1) := by decide +kernel
theorem dX7_u2_0 : decode cX7_u2 0 = .ok (.aload_n 0, 1) := by decide +kernel
theorem dX7_u2_1 : decode cX7_u2 1 = .ok (.iconst 2, 1) := by decide +kernel
theorem dX7_u2_2 : decode cX7_u2 2 = .ok (.invokevirtual 94, 3) := by decide +kernel
theorem dX7_u2_5 : decode cX7_u2 5 = .ok (.l2i, 1) := by decide +kernel
theorem dX7_u2_6 : decode cX7_u2 6 = .ok (.ireturn, 1) := by decide +kernel
theorem dX7_skip_0 : decode cX7_skip 0 = .ok (.aload_n 0, 1) := by decide +kernel
theorem dX7_skip_1 : decode cX7_skip 1 = .ok (.getfield 71, 3) := by decide +kernel
theorem dX7_skip_4 : decode cX7_skip 4 = .ok (.ifCond .ne 34, 3) := by decide +kernel
theorem dX7_skip_7 : decode cX7_skip 7 = .ok (.lload_n 1, 1) := by decide +kernel
theorem dX7_skip_8 : decode cX7_skip 8 = .ok (.aload_n 0, 1) := by decide +kernel
theorem dX7_skip_9 : decode cX7_skip 9 = .ok (.getfield 80, 3) := by decide +kernel
theorem dX7_skip_12 : decode cX7_skip 12 = .ok (.aload_n 0, 1) := by decide +kernel
theorem dX7_skip_13 : decode cX7_skip 13 = .ok (.getfield 77, 3) := by decide +kernel
theorem dX7_skip_16 : decode cX7_skip 16 = .ok (.isub, 1) := by decide +kernel
theorem dX7_skip_17 : decode cX7_skip 17 = .ok (.i2l, 1) := by decide +kernel
theorem dX7_skip_18 : decode cX7_skip 18 = .ok (.lcmp, 1) := by decide +kernel
theorem dX7_skip_19 : decode cX7_skip 19 = .ok (.ifCond .le 19, 3) := by decide +kernel
theorem dX7_skip_22 : decode cX7_skip 22 = .ok (.aload_n 0, 1) := by decide +kernel
theorem dX7_skip_23 : decode cX7_skip 23 = .ok (.aload_n 0, 1) := by decide +kernel
theorem dX7_skip_24 : decode cX7_skip 24 = .ok (.getfield 83, 3) := by decide +kernel
theorem dX7_skip_27 : decode cX7_skip 27 = .ok (.aload_n 0, 1) := by decide +kernel
theorem dX7_skip_28 : decode cX7_skip 28 = .ok (.getfield 86, 3) := by decide +kernel
theorem dX7_skip_31 : decode cX7_skip 31 = .ok (.invokevirtual 89, 3) := by decide +kernel
theorem dX7_skip_34 : decode cX7_skip 34 = .ok (.pop, 1) := by decide +kernel
theorem dX7_skip_35 : decode cX7_skip 35 = .ok (.goto 21, 3) := by decide +kernel
theorem dX7_skip_38 : decode cX7_skip 38 = .ok (.aload_n 0, 1) := by decide +kernel
theorem dX7_skip_39 : decode cX7_skip 39 = .ok (.getfield 71, 3) := by decide +kernel
theorem dX7_skip_42 : decode cX7_skip 42 = .ok (.ifCond .ne 14, 3) := by decide +kernel
theorem dX7_skip_45 : decode cX7_skip 45 = .ok (.aload_n 0, 1) := by decide +kernel
theorem dX7_skip_46 : decode cX7_skip 46 = .ok (.dup, 1) := by decide +kernel
theorem dX7_skip_47 : decode cX7_skip 47 = .ok (.getfield 77, 3) := by decide +kernel
theorem dX7_skip_50 : decode cX7_skip 50 = .ok (.lload_n 1, 1) := by decide +kernel
theorem dX7_skip_51 : decode cX7_skip 51 = .ok (.l2i, 1) := by decide +kernel
theorem dX7_skip_52 : decode cX7_skip 52 = .ok (.iadd, 1) := by decide +kernel
theorem dX7_skip_53 : decode cX7_skip 53 = .ok (.putfield 77, 3) := by decide +kernel
theorem dX7_skip_56 : decode cX7_skip 56 = .ok (.return_, 1) := by decide +kernel
theorem dX7_is_0 : decode cX7_is 0 = .ok (.iload_n 1, 1) := by decide +kernel
theorem dX7_is_1 : decode cX7_is 1 = .ok (.ifCond .le 25, 3) := by decide +kernel
theorem dX7_is_4 : decode cX7_is 4 = .ok (.iload_n 1, 1) := by decide +kernel
theorem dX7_is_5 : decode cX7_is 5 = .ok (.aload_n 0, 1) := by decide +kernel
theorem dX7_is_6 : decode cX7_is 6 = .ok (.getfield 98, 3) := by decide +kernel
theorem dX7_is_9 : decode cX7_is 9 = .ok (.if_icmp .ge 17, 3) := by decide +kernel
theorem dX7_is_12 : decode cX7_is 12 = .ok (.aload_n 0, 1) := by decide +kernel
theorem dX7_is_13 : decode cX7_is 13 = .ok (.getfield 19, 3) := by decide +kernel
theorem dX7_is_16 : decode cX7_is 16 = .ok (.iload_n 1, 1) := by decide +kernel
theorem dX7_is_17 : decode cX7_is 17 = .ok (.iaload, 1) := by decide +kernel
theorem dX7_is_18 : decode cX7_is 18 = .ok (.iload_n 2, 1) := by decide +kernel
theorem dX7_is_19 : decode cX7_is 19 = .ok (.if_icmp .ne 7, 3) := by decide +kernel
theorem dX7_is_22 : decode cX7_is 22 = .ok (.iconst 1, 1) := by decide +kernel
theorem dX7_is_23 : decode cX7_is 23 = .ok (.goto 4, 3) := by decide +kernel
theorem dX7_is_26 : decode cX7_is 26 = .ok (.iconst 0, 1) := by decide +kernel
theorem dX7_is_27 : decode cX7_is 27 = .ok (.ireturn, 1) := by decide +kernel
theorem dX7_letter_0 : decode cX7_letter 0 = .ok (.aload_n 0, 1) := by decide +kernel
theorem dX7_letter_1 : decode cX7_letter 1 = .ok (.getfield 7, 3) := by decide +kernel
theorem dX7_letter_4 : decode cX7_letter 4 = .ok (.aload_n 0, 1) := by decide +kernel
theorem dX7_letter_5 : decode cX7_letter 5 = .ok (.getfield 25, 3) := by decide +kernel
theorem dX7_letter_8 : decode cX7_letter 8 = .ok (.iload_n 1, 1) := by decide +kernel
theorem dX7_letter_9 : decode cX7_letter 9 = .ok (.iaload, 1) := by decide +kernel
theorem dX7_letter_10 : decode cX7_letter 10 = .ok (.iload_n 2, 1) := by decide +kernel
theorem dX7_letter_11 : decode cX7_letter 11 = .ok (.iadd, 1) := by decide +kernel
theorem dX7_letter_12 : decode cX7_letter 12 = .ok (.iaload, 1) := by decide +kernel
theorem dX7_letter_13 : decode cX7_letter 13 = .ok (.ireturn, 1) := by decide +kernel
theorem dX7_spells_0 : decode cX7_spells 0 = .ok (.aload_n 0, 1) := by decide +kernel
theorem dX7_spells_1 : decode cX7_spells 1 = .ok (.getfield 28, 3) := by decide +kernel
theorem dX7_spells_4 : decode cX7_spells 4 = .ok (.iload_n 1, 1) := by decide +kernel
theorem dX7_spells_5 : decode cX7_spells 5 = .ok (.iaload, 1) := by decide +kernel
theorem dX7_spells_6 : decode cX7_spells 6 = .ok (.aload_n 2, 1) := by decide +kernel
theorem dX7_spells_7 : decode cX7_spells 7 = .ok (.arraylength, 1) := by decide +kernel
theorem dX7_spells_8 : decode cX7_spells 8 = .ok (.if_icmp .eq 5, 3) := by decide +kernel
theorem dX7_spells_11 : decode cX7_spells 11 = .ok (.iconst 0, 1) := by decide +kernel
theorem dX7_spells_12 : decode cX7_spells 12 = .ok (.ireturn, 1) := by decide +kernel
theorem dX7_spells_13 : decode cX7_spells 13 = .ok (.iconst 0, 1) := by decide +kernel
theorem dX7_spells_14 : decode cX7_spells 14 = .ok (.istore_n 3, 1) := by decide +kernel
theorem dX7_spells_15 : decode cX7_spells 15 = .ok (.iload_n 3, 1) := by decide +kernel
theorem dX7_spells_16 : decode cX7_spells 16 = .ok (.aload_n 2, 1) := by decide +kernel
theorem dX7_spells_17 : decode cX7_spells 17 = .ok (.arraylength, 1) := by decide +kernel
theorem dX7_spells_18 : decode cX7_spells 18 = .ok (.if_icmp .ge 23, 3) := by decide +kernel
theorem dX7_spells_21 : decode cX7_spells 21 = .ok (.aload_n 0, 1) := by decide +kernel
theorem dX7_spells_22 : decode cX7_spells 22 = .ok (.iload_n 1, 1) := by decide +kernel
theorem dX7_spells_23 : decode cX7_spells 23 = .ok (.iload_n 3, 1) := by decide +kernel
theorem dX7_spells_24 : decode cX7_spells 24 = .ok (.invokevirtual 101, 3) := by decide +kernel
theorem dX7_spells_27 : decode cX7_spells 27 = .ok (.aload_n 2, 1) := by decide +kernel
theorem dX7_spells_28 : decode cX7_spells 28 = .ok (.iload_n 3, 1) := by decide +kernel
theorem dX7_spells_29 : decode cX7_spells 29 = .ok (.iaload, 1) := by decide +kernel
theorem dX7_spells_30 : decode cX7_spells 30 = .ok (.if_icmp .eq 5, 3) := by decide +kernel
theorem dX7_spells_33 : decode cX7_spells 33 = .ok (.iconst 0, 1) := by decide +kernel
theorem dX7_spells_34 : decode cX7_spells 34 = .ok (.ireturn, 1) := by decide +kernel
theorem dX7_spells_35 : decode cX7_spells 35 = .ok (.iinc 3 1, 3) := by decide +kernel
theorem dX7_spells_38 : decode cX7_spells 38 = .ok (.goto (-23), 3) := by decide +kernel
theorem dX7_spells_41 : decode cX7_spells 41 = .ok (.iconst 1, 1) := by decide +kernel
theorem dX7_spells_42 : decode cX7_spells 42 = .ok (.ireturn, 1) := by decide +kernel
theorem dX7_equal_0 : decode cX7_equal 0 = .ok (.aload_n 0, 1) := by decide +kernel
theorem dX7_equal_1 : decode cX7_equal 1 = .ok (.getfield 28, 3) := by decide +kernel
theorem dX7_equal_4 : decode cX7_equal 4 = .ok (.iload_n 1, 1) := by decide +kernel
theorem dX7_equal_5 : decode cX7_equal 5 = .ok (.iaload, 1) := by decide +kernel
theorem dX7_equal_6 : decode cX7_equal 6 = .ok (.aload_n 0, 1) := by decide +kernel
theorem dX7_equal_7 : decode cX7_equal 7 = .ok (.getfield 28, 3) := by decide +kernel
theorem dX7_equal_10 : decode cX7_equal 10 = .ok (.iload_n 2, 1) := by decide +kernel
theorem dX7_equal_11 : decode cX7_equal 11 = .ok (.iaload, 1) := by decide +kernel
theorem dX7_equal_12 : decode cX7_equal 12 = .ok (.if_icmp .eq 5, 3) := by decide +kernel
theorem dX7_equal_15 : decode cX7_equal 15 = .ok (.iconst 0, 1) := by decide +kernel
theorem dX7_equal_16 : decode cX7_equal 16 = .ok (.ireturn, 1) := by decide +kernel
theorem dX7_equal_17 : decode cX7_equal 17 = .ok (.iconst 0, 1) := by decide +kernel
theorem dX7_equal_18 : decode cX7_equal 18 = .ok (.istore_n 3, 1) := by decide +kernel
theorem dX7_equal_19 : decode cX7_equal 19 = .ok (.iload_n 3, 1) := by decide +kernel
theorem dX7_equal_20 : decode cX7_equal 20 = .ok (.aload_n 0, 1) := by decide +kernel
theorem dX7_equal_21 : decode cX7_equal 21 = .ok (.getfield 28, 3) := by decide +kernel
theorem dX7_equal_24 : decode cX7_equal 24 = .ok (.iload_n 1, 1) := by decide +kernel
theorem dX7_equal_25 : decode cX7_equal 25 = .ok (.iaload, 1) := by decide +kernel
theorem dX7_equal_26 : decode cX7_equal 26 = .ok (.if_icmp .ge 26, 3) := by decide +kernel
theorem dX7_equal_29 : decode cX7_equal 29 = .ok (.aload_n 0, 1) := by decide +kernel
theorem dX7_equal_30 : decode cX7_equal 30 = .ok (.iload_n 1, 1) := by decide +kernel
theorem dX7_equal_31 : decode cX7_equal 31 = .ok (.iload_n 3, 1) := by decide +kernel
theorem dX7_equal_32 : decode cX7_equal 32 = .ok (.invokevirtual 101, 3) := by decide +kernel
theorem dX7_equal_35 : decode cX7_equal 35 = .ok (.aload_n 0, 1) := by decide +kernel
theorem dX7_equal_36 : decode cX7_equal 36 = .ok (.iload_n 2, 1) := by decide +kernel
theorem dX7_equal_37 : decode cX7_equal 37 = .ok (.iload_n 3, 1) := by decide +kernel
theorem dX7_equal_38 : decode cX7_equal 38 = .ok (.invokevirtual 101, 3) := by decide +kernel
theorem dX7_equal_41 : decode cX7_equal 41 = .ok (.if_icmp .eq 5, 3) := by decide +kernel
theorem dX7_equal_44 : decode cX7_equal 44 = .ok (.iconst 0, 1) := by decide +kernel
theorem dX7_equal_45 : decode cX7_equal 45 = .ok (.ireturn, 1) := by decide +kernel
theorem dX7_equal_46 : decode cX7_equal 46 = .ok (.iinc 3 1, 3) := by decide +kernel
theorem dX7_equal_49 : decode cX7_equal 49 = .ok (.goto (-30), 3) := by decide +kernel
theorem dX7_equal_52 : decode cX7_equal 52 = .ok (.iconst 1, 1) := by decide +kernel
theorem dX7_equal_53 : decode cX7_equal 53 = .ok (.ireturn, 1) := by decide +kernel
theorem dX7_fieldName_0 : decode cX7_fieldName 0 = .ok (.iconst 0, 1) := by decide +kernel
theorem dX7_fieldName_1 : decode cX7_fieldName 1 = .ok (.istore_n 2, 1) := by decide +kernel
theorem dX7_fieldName_2 : decode cX7_fieldName 2 = .ok (.iload_n 2, 1) := by decide +kernel
theorem dX7_fieldName_3 : decode cX7_fieldName 3 = .ok (.aload_n 0, 1) := by decide +kernel
theorem dX7_fieldName_4 : decode cX7_fieldName 4 = .ok (.getfield 28, 3) := by decide +kernel
theorem dX7_fieldName_7 : decode cX7_fieldName 7 = .ok (.iload_n 1, 1) := by decide +kernel
theorem dX7_fieldName_8 : decode cX7_fieldName 8 = .ok (.iaload, 1) := by decide +kernel
theorem dX7_fieldName_9 : decode cX7_fieldName 9 = .ok (.if_icmp .ge 42, 3) := by decide +kernel
theorem dX7_fieldName_12 : decode cX7_fieldName 12 = .ok (.aload_n 0, 1) := by decide +kernel
theorem dX7_fieldName_13 : decode cX7_fieldName 13 = .ok (.iload_n 1, 1) := by decide +kernel
theorem dX7_fieldName_14 : decode cX7_fieldName 14 = .ok (.iload_n 2, 1) := by decide +kernel
theorem dX7_fieldName_15 : decode cX7_fieldName 15 = .ok (.invokevirtual 101, 3) := by decide +kernel
theorem dX7_fieldName_18 : decode cX7_fieldName 18 = .ok (.istore_n 3, 1) := by decide +kernel
theorem dX7_fieldName_19 : decode cX7_fieldName 19 = .ok (.iload_n 3, 1) := by decide +kernel
theorem dX7_fieldName_20 : decode cX7_fieldName 20 = .ok (.bipush 46, 2) := by decide +kernel
theorem dX7_fieldName_22 : decode cX7_fieldName 22 = .ok (.if_icmp .eq 21, 3) := by decide +kernel
theorem dX7_fieldName_25 : decode cX7_fieldName 25 = .ok (.iload_n 3, 1) := by decide +kernel
theorem dX7_fieldName_26 : decode cX7_fieldName 26 = .ok (.bipush 59, 2) := by decide +kernel
theorem dX7_fieldName_28 : decode cX7_fieldName 28 = .ok (.if_icmp .eq 15, 3) := by decide +kernel
theorem dX7_fieldName_31 : decode cX7_fieldName 31 = .ok (.iload_n 3, 1) := by decide +kernel
theorem dX7_fieldName_32 : decode cX7_fieldName 32 = .ok (.bipush 91, 2) := by decide +kernel
theorem dX7_fieldName_34 : decode cX7_fieldName 34 = .ok (.if_icmp .eq 9, 3) := by decide +kernel
theorem dX7_fieldName_37 : decode cX7_fieldName 37 = .ok (.iload_n 3, 1) := by decide +kernel
theorem dX7_fieldName_38 : decode cX7_fieldName 38 = .ok (.bipush 47, 2) := by decide +kernel
theorem dX7_fieldName_40 : decode cX7_fieldName 40 = .ok (.if_icmp .ne 5, 3) := by decide +kernel
theorem dX7_fieldName_43 : decode cX7_fieldName 43 = .ok (.iconst 0, 1) := by decide +kernel
theorem dX7_fieldName_44 : decode cX7_fieldName 44 = .ok (.ireturn, 1) := by decide +kernel
theorem dX7_fieldName_45 : decode cX7_fieldName 45 = .ok (.iinc 2 1, 3) := by decide +kernel
theorem dX7_fieldName_48 : decode cX7_fieldName 48 = .ok (.goto (-46), 3) := by decide +kernel
theorem dX7_fieldName_51 : decode cX7_fieldName 51 = .ok (.aload_n 0, 1) := by decide +kernel
theorem dX7_fieldName_52 : decode cX7_fieldName 52 = .ok (.getfield 28, 3) := by decide +kernel
theorem dX7_fieldName_55 : decode cX7_fieldName 55 = .ok (.iload_n 1, 1) := by decide +kernel
theorem dX7_fieldName_56 : decode cX7_fieldName 56 = .ok (.iaload, 1) := by decide +kernel
theorem dX7_fieldName_57 : decode cX7_fieldName 57 = .ok (.ifCond .le 7, 3) := by decide +kernel
theorem dX7_fieldName_60 : decode cX7_fieldName 60 = .ok (.iconst 1, 1) := by decide +kernel
theorem dX7_fieldName_61 : decode cX7_fieldName 61 = .ok (.goto 4, 3) := by decide +kernel
theorem dX7_fieldName_64 : decode cX7_fieldName 64 = .ok (.iconst 0, 1) := by decide +kernel
theorem dX7_fieldName_65 : decode cX7_fieldName 65 = .ok (.ireturn, 1) := by decide +kernel
theorem dX7_memberName_0 : decode cX7_memberName 0 = .ok (.aload_n 0, 1) := by decide +kernel
theorem dX7_memberName_1 : decode cX7_memberName 1 = .ok (.iload_n 1, 1) := by decide +kernel
theorem dX7_memberName_2 : decode cX7_memberName 2 = .ok (.aload_n 0, 1) := by decide +kernel
theorem dX7_memberName_3 : decode cX7_memberName 3 = .ok (.getfield 44, 3) := by decide +kernel
theorem dX7_memberName_6 : decode cX7_memberName 6 = .ok (.invokevirtual 105, 3) := by decide +kernel
theorem dX7_memberName_9 : decode cX7_memberName 9 = .ok (.ifCond .ne 15, 3) := by decide +kernel
theorem dX7_memberName_12 : decode cX7_memberName 12 = .ok (.aload_n 0, 1) := by decide +kernel
theorem dX7_memberName_13 : decode cX7_memberName 13 = .ok (.iload_n 1, 1) := by decide +kernel
theorem dX7_memberName_14 : decode cX7_memberName 14 = .ok (.aload_n 0, 1) := by decide +kernel
theorem dX7_memberName_15 : decode cX7_memberName 15 = .ok (.getfield 47, 3) := by decide +kernel
theorem dX7_memberName_18 : decode cX7_memberName 18 = .ok (.invokevirtual 105, 3) := by decide +kernel
theorem dX7_memberName_21 : decode cX7_memberName 21 = .ok (.ifCond .eq 5, 3) := by decide +kernel
theorem dX7_memberName_24 : decode cX7_memberName 24 = .ok (.iconst 1, 1) := by decide +kernel
theorem dX7_memberName_25 : decode cX7_memberName 25 = .ok (.ireturn, 1) := by decide +kernel
theorem dX7_memberName_26 : decode cX7_memberName 26 = .ok (.iconst 0, 1) := by decide +kernel
theorem dX7_memberName_27 : decode cX7_memberName 27 = .ok (.istore_n 2, 1) := by decide +kernel
theorem dX7_memberName_28 : decode cX7_memberName 28 = .ok (.iload_n 2, 1) := by decide +kernel
theorem dX7_memberName_29 : decode cX7_memberName 29 = .ok (.aload_n 0, 1) := by decide +kernel
theorem dX7_memberName_30 : decode cX7_memberName 30 = .ok (.getfield 28, 3) := by decide +kernel
theorem dX7_memberName_33 : decode cX7_memberName 33 = .ok (.iload_n 1, 1) := by decide +kernel
theorem dX7_memberName_34 : decode cX7_memberName 34 = .ok (.iaload, 1) := by decide +kernel
theorem dX7_memberName_35 : decode cX7_memberName 35 = .ok (.if_icmp .ge 33, 3) := by decide +kernel
theorem dX7_memberName_38 : decode cX7_memberName 38 = .ok (.aload_n 0, 1) := by decide +kernel
theorem dX7_memberName_39 : decode cX7_memberName 39 = .ok (.iload_n 1, 1) := by decide +kernel
theorem dX7_memberName_40 : decode cX7_memberName 40 = .ok (.iload_n 2, 1) := by decide +kernel
theorem dX7_memberName_41 : decode cX7_memberName 41 = .ok (.invokevirtual 101, 3) := by decide +kernel
theorem dX7_memberName_44 : decode cX7_memberName 44 = .ok (.bipush 60, 2) := by decide +kernel
theorem dX7_memberName_46 : decode cX7_memberName 46 = .ok (.if_icmp .eq 14, 3) := by decide +kernel
theorem dX7_memberName_49 : decode cX7_memberName 49 = .ok (.aload_n 0, 1) := by decide +kernel
theorem dX7_memberName_50 : decode cX7_memberName 50 = .ok (.iload_n 1, 1) := by decide +kernel
theorem dX7_memberName_51 : decode cX7_memberName 51 = .ok (.iload_n 2, 1) := by decide +kernel
theorem dX7_memberName_52 : decode cX7_memberName 52 = .ok (.invokevirtual 101, 3) := by decide +kernel
theorem dX7_memberName_55 : decode cX7_memberName 55 = .ok (.bipush 62, 2) := by decide +kernel
theorem dX7_memberName_57 : decode cX7_memberName 57 = .ok (.if_icmp .ne 5, 3) := by decide +kernel
theorem dX7_memberName_60 : decode cX7_memberName 60 = .ok (.iconst 0, 1) := by decide +kernel
theorem dX7_memberName_61 : decode cX7_memberName 61 = .ok (.ireturn, 1) := by decide +kernel
theorem dX7_memberName_62 : decode cX7_memberName 62 = .ok (.iinc 2 1, 3) := by decide +kernel
theorem dX7_memberName_65 : decode cX7_memberName 65 = .ok (.goto (-37), 3) := by decide +kernel
theorem dX7_memberName_68 : decode cX7_memberName 68 = .ok (.aload_n 0, 1) := by decide +kernel
theorem dX7_memberName_69 : decode cX7_memberName 69 = .ok (.iload_n 1, 1) := by decide +kernel
theorem dX7_memberName_70 : decode cX7_memberName 70 = .ok (.invokevirtual 109, 3) := by decide +kernel
theorem dX7_memberName_73 : decode cX7_memberName 73 = .ok (.ireturn, 1) := by decide +kernel
theorem dX7_className_0 : decode cX7_className 0 = .ok (.iconst 0, 1) := by decide +kernel
theorem dX7_className_1 : decode cX7_className 1 = .ok (.istore 4, 2) := by decide +kernel
theorem dX7_className_3 : decode cX7_className 3 = .ok (.iload_n 2, 1) := by decide +kernel
theorem dX7_className_4 : decode cX7_className 4 = .ok (.istore 5, 2) := by decide +kernel
theorem dX7_className_6 : decode cX7_className 6 = .ok (.iload 5, 2) := by decide +kernel
theorem dX7_className_8 : decode cX7_className 8 = .ok (.iload_n 3, 1) := by decide +kernel
theorem dX7_className_9 : decode cX7_className 9 = .ok (.if_icmp .ge 70, 3) := by decide +kernel
theorem dX7_className_12 : decode cX7_className 12 = .ok (.aload_n 0, 1) := by decide +kernel
theorem dX7_className_13 : decode cX7_className 13 = .ok (.iload_n 1, 1) := by decide +kernel
theorem dX7_className_14 : decode cX7_className 14 = .ok (.iload 5, 2) := by decide +kernel
theorem dX7_className_16 : decode cX7_className 16 = .ok (.invokevirtual 101, 3) := by decide +kernel
theorem dX7_className_19 : decode cX7_className 19 = .ok (.istore 6, 2) := by decide +kernel
theorem dX7_className_21 : decode cX7_className 21 = .ok (.iload 6, 2) := by decide +kernel
theorem dX7_className_23 : decode cX7_className 23 = .ok (.bipush 46, 2) := by decide +kernel
theorem dX7_className_25 : decode cX7_className 25 = .ok (.if_icmp .eq 29, 3) := by decide +kernel
theorem dX7_className_28 : decode cX7_className 28 = .ok (.iload 6, 2) := by decide +kernel
theorem dX7_className_30 : decode cX7_className 30 = .ok (.bipush 59, 2) := by decide +kernel
theorem dX7_className_32 : decode cX7_className 32 = .ok (.if_icmp .eq 22, 3) := by decide +kernel
theorem dX7_className_35 : decode cX7_className 35 = .ok (.iload 6, 2) := by decide +kernel
theorem dX7_className_37 : decode cX7_className 37 = .ok (.bipush 91, 2) := by decide +kernel
theorem dX7_className_39 : decode cX7_className 39 = .ok (.if_icmp .eq 15, 3) := by decide +kernel
theorem dX7_className_42 : decode cX7_className 42 = .ok (.iload 6, 2) := by decide +kernel
theorem dX7_className_44 : decode cX7_className 44 = .ok (.bipush 47, 2) := by decide +kernel
theorem dX7_className_46 : decode cX7_className 46 = .ok (.if_icmp .ne 10, 3) := by decide +kernel
theorem dX7_className_49 : decode cX7_className 49 = .ok (.iload 4, 2) := by decide +kernel
theorem dX7_className_51 : decode cX7_className 51 = .ok (.ifCond .ne 5, 3) := by decide +kernel
theorem dX7_className_54 : decode cX7_className 54 = .ok (.iconst 0, 1) := by decide +kernel
theorem dX7_className_55 : decode cX7_className 55 = .ok (.ireturn, 1) := by decide +kernel
theorem dX7_className_56 : decode cX7_className 56 = .ok (.iload 6, 2) := by decide +kernel
theorem dX7_className_58 : decode cX7_className 58 = .ok (.bipush 47, 2) := by decide +kernel
theorem dX7_className_60 : decode cX7_className 60 = .ok (.if_icmp .ne 7, 3) := by decide +kernel
theorem dX7_className_63 : decode cX7_className 63 = .ok (.iconst 0, 1) := by decide +kernel
theorem dX7_className_64 : decode cX7_className 64 = .ok (.goto 7, 3) := by decide +kernel
theorem dX7_className_67 : decode cX7_className 67 = .ok (.iload 4, 2) := by decide +kernel
theorem dX7_className_69 : decode cX7_className 69 = .ok (.iconst 1, 1) := by decide +kernel
theorem dX7_className_70 : decode cX7_className 70 = .ok (.iadd, 1) := by decide +kernel
theorem dX7_className_71 : decode cX7_className 71 = .ok (.istore 4, 2) := by decide +kernel
theorem dX7_className_73 : decode cX7_className 73 = .ok (.iinc 5 1, 3) := by decide +kernel
theorem dX7_className_76 : decode cX7_className 76 = .ok (.goto (-70), 3) := by decide +kernel
theorem dX7_className_79 : decode cX7_className 79 = .ok (.iload 4, 2) := by decide +kernel
theorem dX7_className_81 : decode cX7_className 81 = .ok (.ifCond .le 7, 3) := by decide +kernel
theorem dX7_className_84 : decode cX7_className 84 = .ok (.iconst 1, 1) := by decide +kernel
theorem dX7_className_85 : decode cX7_className 85 = .ok (.goto 4, 3) := by decide +kernel
theorem dX7_className_88 : decode cX7_className 88 = .ok (.iconst 0, 1) := by decide +kernel
theorem dX7_className_89 : decode cX7_className 89 = .ok (.ireturn, 1) := by decide +kernel
theorem dX7_base_0 : decode cX7_base 0 = .ok (.iload_n 0, 1) := by decide +kernel
theorem dX7_base_1 : decode cX7_base 1 = .ok (.bipush 66, 2) := by decide +kernel
theorem dX7_base_3 : decode cX7_base 3 = .ok (.if_icmp .eq 45, 3) := by decide +kernel
theorem dX7_base_6 : decode cX7_base 6 = .ok (.iload_n 0, 1) := by decide +kernel
theorem dX7_base_7 : decode cX7_base 7 = .ok (.bipush 67, 2) := by decide +kernel
theorem dX7_base_9 : decode cX7_base 9 = .ok (.if_icmp .eq 39, 3) := by decide +kernel
theorem dX7_base_12 : decode cX7_base 12 = .ok (.iload_n 0, 1) := by decide +kernel
theorem dX7_base_13 : decode cX7_base 13 = .ok (.bipush 68, 2) := by decide +kernel
theorem dX7_base_15 : decode cX7_base 15 = .ok (.if_icmp .eq 33, 3) := by decide +kernel
theorem dX7_base_18 : decode cX7_base 18 = .ok (.iload_n 0, 1) := by decide +kernel
theorem dX7_base_19 : decode cX7_base 19 = .ok (.bipush 70, 2) := by decide +kernel
theorem dX7_base_21 : decode cX7_base 21 = .ok (.if_icmp .eq 27, 3) := by decide +kernel
theorem dX7_base_24 : decode cX7_base 24 = .ok (.iload_n 0, 1) := by decide +kernel
theorem dX7_base_25 : decode cX7_base 25 = .ok (.bipush 73, 2) := by decide +kernel
theorem dX7_base_27 : decode cX7_base 27 = .ok (.if_icmp .eq 21, 3) := by decide +kernel
theorem dX7_base_30 : decode cX7_base 30 = .ok (.iload_n 0, 1) := by decide +kernel
theorem dX7_base_31 : decode cX7_base 31 = .ok (.bipush 74, 2) := by decide +kernel
theorem dX7_base_33 : decode cX7_base 33 = .ok (.if_icmp .eq 15, 3) := by decide +kernel
theorem dX7_base_36 : decode cX7_base 36 = .ok (.iload_n 0, 1) := by decide +kernel
theorem dX7_base_37 : decode cX7_base 37 = .ok (.bipush 83, 2) := by decide +kernel
theorem dX7_base_39 : decode cX7_base 39 = .ok (.if_icmp .eq 9, 3) := by decide +kernel
theorem dX7_base_42 : decode cX7_base 42 = .ok (.iload_n 0, 1) := by decide +kernel
theorem dX7_base_43 : decode cX7_base 43 = .ok (.bipush 90, 2) := by decide +kernel
theorem dX7_base_45 : decode cX7_base 45 = .ok (.if_icmp .ne 7, 3) := by decide +kernel
theorem dX7_base_48 : decode cX7_base 48 = .ok (.iconst 1, 1) := by decide +kernel
theorem dX7_base_49 : decode cX7_base 49 = .ok (.goto 4, 3) := by decide +kernel
theorem dX7_base_52 : decode cX7_base 52 = .ok (.iconst 0, 1) := by decide +kernel
theorem dX7_base_53 : decode cX7_base 53 = .ok (.ireturn, 1) := by decide +kernel
theorem dX7_brackets_0 : decode cX7_brackets 0 = .ok (.iload_n 2, 1) := by decide +kernel
theorem dX7_brackets_1 : decode cX7_brackets 1 = .ok (.istore_n 3, 1) := by decide +kernel
theorem dX7_brackets_2 : decode cX7_brackets 2 = .ok (.iload_n 3, 1) := by decide +kernel
theorem dX7_brackets_3 : decode cX7_brackets 3 = .ok (.aload_n 0, 1) := by decide +kernel
