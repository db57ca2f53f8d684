theorem dX8_isBetween_0 : decode cX8_isBetween 0 = .ok (.lload_n 0, 1) := by decide +kernel
theorem dX8_isBetween_1 : decode cX8_isBetween 1 = .ok (.lload_n 2, 1) := by decide +kernel
theorem dX8_isBetween_2 : decode cX8_isBetween 2 = .ok (.lcmp, 1) := by decide +kernel
theorem dX8_isBetween_3 : decode cX8_isBetween 3 = .ok (.ifCond .lt 14, 3) := by decide +kernel
theorem dX8_isBetween_6 : decode cX8_isBetween 6 = .ok (.lload_n 0, 1) := by decide +kernel
theorem dX8_isBetween_7 : decode cX8_isBetween 7 = .ok (.lload 4, 2) := by decide +kernel
theorem dX8_isBetween_9 : decode cX8_isBetween 9 = .ok (.lcmp, 1) := by decide +kernel
theorem dX8_isBetween_10 : decode cX8_isBetween 10 = .ok (.ifCond .gt 7, 3) := by decide +kernel
theorem dX8_isBetween_13 : decode cX8_isBetween 13 = .ok (.iconst 1, 1) := by decide +kernel
theorem dX8_isBetween_14 : decode cX8_isBetween 14 = .ok (.goto 4, 3) := by decide +kernel
theorem dX8_isBetween_17 : decode cX8_isBetween 17 = .ok (.iconst 0, 1) := by decide +kernel
theorem dX8_isBetween_18 : decode cX8_isBetween 18 = .ok (.ireturn, 1) := by decide +kernel
theorem dX8_isRegister_0 : decode cX8_isRegister 0 = .ok (.iload_n 0, 1) := by decide +kernel
theorem dX8_isRegister_1 : decode cX8_isRegister 1 = .ok (.i2l, 1) := by decide +kernel
theorem dX8_isRegister_2 : decode cX8_isRegister 2 = .ok (.lconst 0, 1) := by decide +kernel
theorem dX8_isRegister_3 : decode cX8_isRegister 3 = .ok (.ldc2_w 5, 3) := by decide +kernel
theorem dX8_isRegister_6 : decode cX8_isRegister 6 = .ok (.invokestatic 7, 3) := by decide +kernel
theorem dX8_isRegister_9 : decode cX8_isRegister 9 = .ok (.ireturn, 1) := by decide +kernel
theorem dX8_init_0 : decode cX8_init 0 = .ok (.aload_n 0, 1) := by decide +kernel
theorem dX8_init_1 : decode cX8_init 1 = .ok (.invokespecial 11, 3) := by decide +kernel
theorem dX8_init_4 : decode cX8_init 4 = .ok (.aload_n 0, 1) := by decide +kernel
theorem dX8_init_5 : decode cX8_init 5 = .ok (.bipush 12, 2) := by decide +kernel
theorem dX8_init_7 : decode cX8_init 7 = .ok (.putfield 17, 3) := by decide +kernel
theorem dX8_init_10 : decode cX8_init 10 = .ok (.aload_n 0, 1) := by decide +kernel
theorem dX8_init_11 : decode cX8_init 11 = .ok (.sipush 144, 3) := by decide +kernel
theorem dX8_init_14 : decode cX8_init 14 = .ok (.newarray .long, 2) := by decide +kernel
theorem dX8_init_16 : decode cX8_init 16 = .ok (.putfield 21, 3) := by decide +kernel
theorem dX8_init_19 : decode cX8_init 19 = .ok (.aload_n 0, 1) := by decide +kernel
theorem dX8_init_20 : decode cX8_init 20 = .ok (.bipush 120, 2) := by decide +kernel
theorem dX8_init_22 : decode cX8_init 22 = .ok (.newarray .long, 2) := by decide +kernel
theorem dX8_init_24 : decode cX8_init 24 = .ok (.putfield 25, 3) := by decide +kernel
theorem dX8_init_27 : decode cX8_init 27 = .ok (.aload_n 0, 1) := by decide +kernel
theorem dX8_init_28 : decode cX8_init 28 = .ok (.bipush 120, 2) := by decide +kernel
theorem dX8_init_30 : decode cX8_init 30 = .ok (.newarray .long, 2) := by decide +kernel
theorem dX8_init_32 : decode cX8_init 32 = .ok (.putfield 28, 3) := by decide +kernel
theorem dX8_init_35 : decode cX8_init 35 = .ok (.aload_n 0, 1) := by decide +kernel
theorem dX8_init_36 : decode cX8_init 36 = .ok (.sipush 1920, 3) := by decide +kernel
theorem dX8_init_39 : decode cX8_init 39 = .ok (.newarray .long, 2) := by decide +kernel
theorem dX8_init_41 : decode cX8_init 41 = .ok (.putfield 31, 3) := by decide +kernel
theorem dX8_init_44 : decode cX8_init 44 = .ok (.aload_n 0, 1) := by decide +kernel
theorem dX8_init_45 : decode cX8_init 45 = .ok (.bipush 24, 2) := by decide +kernel
theorem dX8_init_47 : decode cX8_init 47 = .ok (.newarray .long, 2) := by decide +kernel
theorem dX8_init_49 : decode cX8_init 49 = .ok (.putfield 34, 3) := by decide +kernel
theorem dX8_init_52 : decode cX8_init 52 = .ok (.aload_n 0, 1) := by decide +kernel
theorem dX8_init_53 : decode cX8_init 53 = .ok (.bipush 24, 2) := by decide +kernel
theorem dX8_init_55 : decode cX8_init 55 = .ok (.newarray .long, 2) := by decide +kernel
theorem dX8_init_57 : decode cX8_init 57 = .ok (.putfield 37, 3) := by decide +kernel
theorem dX8_init_60 : decode cX8_init 60 = .ok (.aload_n 0, 1) := by decide +kernel
theorem dX8_init_61 : decode cX8_init 61 = .ok (.bipush 24, 2) := by decide +kernel
theorem dX8_init_63 : decode cX8_init 63 = .ok (.newarray .long, 2) := by decide +kernel
theorem dX8_init_65 : decode cX8_init 65 = .ok (.putfield 40, 3) := by decide +kernel
theorem dX8_init_68 : decode cX8_init 68 = .ok (.aload_n 0, 1) := by decide +kernel
theorem dX8_init_69 : decode cX8_init 69 = .ok (.bipush 120, 2) := by decide +kernel
theorem dX8_init_71 : decode cX8_init 71 = .ok (.newarray .long, 2) := by decide +kernel
theorem dX8_init_73 : decode cX8_init 73 = .ok (.putfield 43, 3) := by decide +kernel
theorem dX8_init_76 : decode cX8_init 76 = .ok (.aload_n 0, 1) := by decide +kernel
theorem dX8_init_77 : decode cX8_init 77 = .ok (.bipush 120, 2) := by decide +kernel
theorem dX8_init_79 : decode cX8_init 79 = .ok (.newarray .long, 2) := by decide +kernel
theorem dX8_init_81 : decode cX8_init 81 = .ok (.putfield 46, 3) := by decide +kernel
theorem dX8_init_84 : decode cX8_init 84 = .ok (.aload_n 0, 1) := by decide +kernel
theorem dX8_init_85 : decode cX8_init 85 = .ok (.bipush 61, 2) := by decide +kernel
theorem dX8_init_87 : decode cX8_init 87 = .ok (.newarray .long, 2) := by decide +kernel
theorem dX8_init_89 : decode cX8_init 89 = .ok (.putfield 49, 3) := by decide +kernel
theorem dX8_init_92 : decode cX8_init 92 = .ok (.aload_n 0, 1) := by decide +kernel
theorem dX8_init_93 : decode cX8_init 93 = .ok (.sipush 3696, 3) := by decide +kernel
theorem dX8_init_96 : decode cX8_init 96 = .ok (.newarray .int, 2) := by decide +kernel
theorem dX8_init_98 : decode cX8_init 98 = .ok (.putfield 52, 3) := by decide +kernel
theorem dX8_init_101 : decode cX8_init 101 = .ok (.aload_n 0, 1) := by decide +kernel
theorem dX8_init_102 : decode cX8_init 102 = .ok (.bipush 16, 2) := by decide +kernel
theorem dX8_init_104 : decode cX8_init 104 = .ok (.newarray .int, 2) := by decide +kernel
theorem dX8_init_106 : decode cX8_init 106 = .ok (.putfield 56, 3) := by decide +kernel
theorem dX8_init_109 : decode cX8_init 109 = .ok (.aload_n 0, 1) := by decide +kernel
theorem dX8_init_110 : decode cX8_init 110 = .ok (.bipush 37, 2) := by decide +kernel
theorem dX8_init_112 : decode cX8_init 112 = .ok (.newarray .int, 2) := by decide +kernel
theorem dX8_init_114 : decode cX8_init 114 = .ok (.dup, 1) := by decide +kernel
theorem dX8_init_115 : decode cX8_init 115 = .ok (.iconst 0, 1) := by decide +kernel
theorem dX8_init_116 : decode cX8_init 116 = .ok (.bipush 100, 2) := by decide +kernel
theorem dX8_init_118 : decode cX8_init 118 = .ok (.iastore, 1) := by decide +kernel
theorem dX8_init_119 : decode cX8_init 119 = .ok (.dup, 1) := by decide +kernel
theorem dX8_init_120 : decode cX8_init 120 = .ok (.iconst 1, 1) := by decide +kernel
theorem dX8_init_121 : decode cX8_init 121 = .ok (.bipush 105, 2) := by decide +kernel
theorem dX8_init_123 : decode cX8_init 123 = .ok (.iastore, 1) := by decide +kernel
theorem dX8_init_124 : decode cX8_init 124 = .ok (.dup, 1) := by decide +kernel
theorem dX8_init_125 : decode cX8_init 125 = .ok (.iconst 2, 1) := by decide +kernel
theorem dX8_init_126 : decode cX8_init 126 = .ok (.bipush 115, 2) := by decide +kernel
theorem dX8_init_128 : decode cX8_init 128 = .ok (.iastore, 1) := by decide +kernel
theorem dX8_init_129 : decode cX8_init 129 = .ok (.dup, 1) := by decide +kernel
theorem dX8_init_130 : decode cX8_init 130 = .ok (.iconst 3, 1) := by decide +kernel
theorem dX8_init_131 : decode cX8_init 131 = .ok (.bipush 116, 2) := by decide +kernel
theorem dX8_init_133 : decode cX8_init 133 = .ok (.iastore, 1) := by decide +kernel
theorem dX8_init_134 : decode cX8_init 134 = .ok (.dup, 1) := by decide +kernel
theorem dX8_init_135 : decode cX8_init 135 = .ok (.iconst 4, 1) := by decide +kernel
theorem dX8_init_136 : decode cX8_init 136 = .ok (.bipush 105, 2) := by decide +kernel
theorem dX8_init_138 : decode cX8_init 138 = .ok (.iastore, 1) := by decide +kernel
theorem dX8_init_139 : decode cX8_init 139 = .ok (.dup, 1) := by decide +kernel
theorem dX8_init_140 : decode cX8_init 140 = .ok (.iconst 5, 1) := by decide +kernel
theorem dX8_init_141 : decode cX8_init 141 = .ok (.bipush 110, 2) := by decide +kernel
theorem dX8_init_143 : decode cX8_init 143 = .ok (.iastore, 1) := by decide +kernel
theorem dX8_init_144 : decode cX8_init 144 = .ok (.dup, 1) := by decide +kernel
theorem dX8_init_145 : decode cX8_init 145 = .ok (.bipush 6, 2) := by decide +kernel
theorem dX8_init_147 : decode cX8_init 147 = .ok (.bipush 99, 2) := by decide +kernel
theorem dX8_init_149 : decode cX8_init 149 = .ok (.iastore, 1) := by decide +kernel
theorem dX8_init_150 : decode cX8_init 150 = .ok (.dup, 1) := by decide +kernel
theorem dX8_init_151 : decode cX8_init 151 = .ok (.bipush 7, 2) := by decide +kernel
theorem dX8_init_153 : decode cX8_init 153 = .ok (.bipush 116, 2) := by decide +kernel
theorem dX8_init_155 : decode cX8_init 155 = .ok (.iastore, 1) := by decide +kernel
theorem dX8_init_156 : decode cX8_init 156 = .ok (.dup, 1) := by decide +kernel
theorem dX8_init_157 : decode cX8_init 157 = .ok (.bipush 8, 2) := by decide +kernel
theorem dX8_init_159 : decode cX8_init 159 = .ok (.bipush 111, 2) := by decide +kernel
theorem dX8_init_161 : decode cX8_init 161 = .ok (.iastore, 1) := by decide +kernel
theorem dX8_init_162 : decode cX8_init 162 = .ok (.dup, 1) := by decide +kernel
theorem dX8_init_163 : decode cX8_init 163 = .ok (.bipush 9, 2) := by decide +kernel
theorem dX8_init_165 : decode cX8_init 165 = .ok (.bipush 100, 2) := by decide +kernel
theorem dX8_init_167 : decode cX8_init 167 = .ok (.iastore, 1) := by decide +kernel
theorem dX8_init_168 : decode cX8_init 168 = .ok (.dup, 1) := by decide +kernel
theorem dX8_init_169 : decode cX8_init 169 = .ok (.bipush 10, 2) := by decide +kernel
theorem dX8_init_171 : decode cX8_init 171 = .ok (.bipush 100, 2) := by decide +kernel
theorem dX8_init_173 : decode cX8_init 173 = .ok (.iastore, 1) := by decide +kernel
theorem dX8_init_174 : decode cX8_init 174 = .ok (.dup, 1) := by decide +kernel
theorem dX8_init_175 : decode cX8_init 175 = .ok (.bipush 11, 2) := by decide +kernel
theorem dX8_init_177 : decode cX8_init 177 = .ok (.bipush 103, 2) := by decide +kernel
theorem dX8_init_179 : decode cX8_init 179 = .ok (.iastore, 1) := by decide +kernel
theorem dX8_init_180 : decode cX8_init 180 = .ok (.dup, 1) := by decide +kernel
theorem dX8_init_181 : decode cX8_init 181 = .ok (.bipush 12, 2) := by decide +kernel
theorem dX8_init_183 : decode cX8_init 183 = .ok (.bipush 97, 2) := by decide +kernel
theorem dX8_init_185 : decode cX8_init 185 = .ok (.iastore, 1) := by decide +kernel
theorem dX8_init_186 : decode cX8_init 186 = .ok (.dup, 1) := by decide +kernel
theorem dX8_init_187 : decode cX8_init 187 = .ok (.bipush 13, 2) := by decide +kernel
theorem dX8_init_189 : decode cX8_init 189 = .ok (.bipush 112, 2) := by decide +kernel
theorem dX8_init_191 : decode cX8_init 191 = .ok (.iastore, 1) := by decide +kernel
theorem dX8_init_192 : decode cX8_init 192 = .ok (.dup, 1) := by decide +kernel
theorem dX8_init_193 : decode cX8_init 193 = .ok (.bipush 14, 2) := by decide +kernel
theorem dX8_init_195 : decode cX8_init 195 = .ok (.bipush 110, 2) := by decide +kernel
theorem dX8_init_197 : decode cX8_init 197 = .ok (.iastore, 1) := by decide +kernel
theorem dX8_init_198 : decode cX8_init 198 = .ok (.dup, 1) := by decide +kernel
theorem dX8_init_199 : decode cX8_init 199 = .ok (.bipush 15, 2) := by decide +kernel
theorem dX8_init_201 : decode cX8_init 201 = .ok (.bipush 111, 2) := by decide +kernel
theorem dX8_init_203 : decode cX8_init 203 = .ok (.iastore, 1) := by decide +kernel
theorem dX8_init_204 : decode cX8_init 204 = .ok (.dup, 1) := by decide +kernel
theorem dX8_init_205 : decode cX8_init 205 = .ok (.bipush 16, 2) := by decide +kernel
theorem dX8_init_207 : decode cX8_init 207 = .ok (.bipush 111, 2) := by decide +kernel
theorem dX8_init_209 : decode cX8_init 209 = .ok (.iastore, 1) := by decide +kernel
theorem dX8_init_210 : decode cX8_init 210 = .ok (.dup, 1) := by decide +kernel
theorem dX8_init_211 : decode cX8_init 211 = .ok (.bipush 17, 2) := by decide +kernel
theorem dX8_init_213 : decode cX8_init 213 = .ok (.bipush 110, 2) := by decide +kernel
theorem dX8_init_215 : decode cX8_init 215 = .ok (.iastore, 1) := by decide +kernel
theorem dX8_init_216 : decode cX8_init 216 = .ok (.dup, 1) := by decide +kernel
theorem dX8_init_217 : decode cX8_init 217 = .ok (.bipush 18, 2) := by decide +kernel
theorem dX8_init_219 : decode cX8_init 219 = .ok (.bipush 101, 2) := by decide +kernel
theorem dX8_init_221 : decode cX8_init 221 = .ok (.iastore, 1) := by decide +kernel
theorem dX8_init_222 : decode cX8_init 222 = .ok (.dup, 1) := by decide +kernel
theorem dX8_init_223 : decode cX8_init 223 = .ok (.bipush 19, 2) := by decide +kernel
theorem dX8_init_225 : decode cX8_init 225 = .ok (.bipush 115, 2) := by decide +kernel
theorem dX8_init_227 : decode cX8_init 227 = .ok (.iastore, 1) := by decide +kernel
theorem dX8_init_228 : decode cX8_init 228 = .ok (.dup, 1) := by decide +kernel
theorem dX8_init_229 : decode cX8_init 229 = .ok (.bipush 20, 2) := by decide +kernel
theorem dX8_init_231 : decode cX8_init 231 = .ok (.bipush 101, 2) := by decide +kernel
theorem dX8_init_233 : decode cX8_init 233 = .ok (.iastore, 1) := by decide +kernel
theorem dX8_init_234 : decode cX8_init 234 = .ok (.dup, 1) := by decide +kernel
theorem dX8_init_235 : decode cX8_init 235 = .ok (.bipush 21, 2) := by decide +kernel
theorem dX8_init_237 : decode cX8_init 237 = .ok (.bipush 118, 2) := by decide +kernel
theorem dX8_init_239 : decode cX8_init 239 = .ok (.iastore, 1) := by decide +kernel
theorem dX8_init_240 : decode cX8_init 240 = .ok (.dup, 1) := by decide +kernel
theorem dX8_init_241 : decode cX8_init 241 = .ok (.bipush 22, 2) := by decide +kernel
theorem dX8_init_243 : decode cX8_init 243 = .ok (.bipush 101, 2) := by decide +kernel
theorem dX8_init_245 : decode cX8_init 245 = .ok (.iastore, 1) := by decide +kernel
theorem dX8_init_246 : decode cX8_init 246 = .ok (.dup, 1) := by decide +kernel
theorem dX8_init_247 : decode cX8_init 247 = .ok (.bipush 23, 2) := by decide +kernel
theorem dX8_init_249 : decode cX8_init 249 = .ok (.bipush 110, 2) := by decide +kernel
theorem dX8_init_251 : decode cX8_init 251 = .ok (.iastore, 1) := by decide +kernel
theorem dX8_init_252 : decode cX8_init 252 = .ok (.dup, 1) := by decide +kernel
theorem dX8_init_253 : decode cX8_init 253 = .ok (.bipush 24, 2) := by decide +kernel
theorem dX8_init_255 : decode cX8_init 255 = .ok (.bipush 115, 2) := by decide +kernel
theorem dX8_init_257 : decode cX8_init 257 = .ok (.iastore, 1) := by decide +kernel
theorem dX8_init_258 : decode cX8_init 258 = .ok (.dup, 1) := by decide +kernel
theorem dX8_init_259 : decode cX8_init 259 = .ok (.bipush 25, 2) := by decide +kernel
theorem dX8_init_261 : decode cX8_init 261 = .ok (.bipush 101, 2) := by decide +kernel
theorem dX8_init_263 : decode cX8_init 263 = .ok (.iastore, 1) := by decide +kernel
theorem dX8_init_264 : decode cX8_init 264 = .ok (.dup, 1) := by decide +kernel
theorem dX8_init_265 : decode cX8_init 265 = .ok (.bipush 26, 2) := by decide +kernel
theorem dX8_init_267 : decode cX8_init 267 = .ok (.bipush 108, 2) := by decide +kernel
theorem dX8_init_269 : decode cX8_init 269 = .ok (.iastore, 1) := by decide +kernel
theorem dX8_init_270 : decode cX8_init 270 = .ok (.dup, 1) := by decide +kernel
theorem dX8_init_271 : decode cX8_init 271 = .ok (.bipush 27, 2) := by decide +kernel
theorem dX8_init_273 : decode cX8_init 273 = .ok (.bipush 102, 2) := by decide +kernel
theorem dX8_init_275 : decode cX8_init 275 = .ok (.iastore, 1) := by decide +kernel
theorem dX8_init_276 : decode cX8_init 276 = .ok (.dup, 1) := by decide +kernel
theorem dX8_init_277 : decode cX8_init 277 = .ok (.bipush 28, 2) := by decide +kernel
theorem dX8_init_279 : decode cX8_init 279 = .ok (.bipush 99, 2) := by decide +kernel
theorem dX8_init_281 : decode cX8_init 281 = .ok (.iastore, 1) := by decide +kernel
theorem dX8_init_282 : decode cX8_init 282 = .ok (.dup, 1) := by decide +kernel
theorem dX8_init_283 : decode cX8_init 283 = .ok (.bipush 29, 2) := by decide +kernel
theorem dX8_init_285 : decode cX8_init 285 = .ok (.bipush 111, 2) := by decide +kernel
theorem dX8_init_287 : decode cX8_init 287 = .ok (.iastore, 1) := by decide +kernel
theorem dX8_init_288 : decode cX8_init 288 = .ok (.dup, 1) := by decide +kernel
theorem dX8_init_289 : decode cX8_init 289 = .ok (.bipush 30, 2) := by decide +kernel
theorem dX8_init_291 : decode cX8_init 291 = .ok (.bipush 110, 2) := by decide +kernel
theorem dX8_init_293 : decode cX8_init 293 = .ok (.iastore, 1) := by decide +kernel
theorem dX8_init_294 : decode cX8_init 294 = .ok (.dup, 1) := by decide +kernel
theorem dX8_init_295 : decode cX8_init 295 = .ok (.bipush 31, 2) := by decide +kernel
theorem dX8_init_297 : decode cX8_init 297 = .ok (.bipush 106, 2) := by decide +kernel
theorem dX8_init_299 : decode cX8_init 299 = .ok (.iastore, 1) := by decide +kernel
theorem dX8_init_300 : decode cX8_init 300 = .ok (.dup, 1) := by decide +kernel
theorem dX8_init_301 : decode cX8_init 301 = .ok (.bipush 32, 2) := by decide +kernel
theorem dX8_init_303 : decode cX8_init 303 = .ok (.bipush 117, 2) := by decide +kernel
theorem dX8_init_305 : decode cX8_init 305 = .ok (.iastore, 1) := by decide +kernel
theorem dX8_init_306 : decode cX8_init 306 = .ok (.dup, 1) := by decide +kernel
theorem dX8_init_307 : decode cX8_init 307 = .ok (.bipush 33, 2) := by decide +kernel
theorem dX8_init_309 : decode cX8_init 309 = .ok (.bipush 103, 2) := by decide +kernel
theorem dX8_init_311 : decode cX8_init 311 = .ok (.iastore, 1) := by decide +kernel
theorem dX8_init_312 : decode cX8_init 312 = .ok (.dup, 1) := by decide +kernel
theorem dX8_init_313 : decode cX8_init 313 = .ok (.bipush 34, 2) := by decide +kernel
theorem dX8_init_315 : decode cX8_init 315 = .ok (.bipush 97, 2) := by decide +kernel
theorem dX8_init_317 : decode cX8_init 317 = .ok (.iastore, 1) := by decide +kernel
theorem dX8_init_318 : decode cX8_init 318 = .ok (.dup, 1) := by decide +kernel
theorem dX8_init_319 : decode cX8_init 319 = .ok (.bipush 35, 2) := by decide +kernel
theorem dX8_init_321 : decode cX8_init 321 = .ok (.bipush 116, 2) := by decide +kernel
theorem dX8_init_323 : decode cX8_init 323 = .ok (.iastore, 1) := by decide +kernel
theorem dX8_init_324 : decode cX8_init 324 = .ok (.dup, 1) := by decide +kernel
theorem dX8_init_325 : decode cX8_init 325 = .ok (.bipush 36, 2) := by decide +kernel
theorem dX8_init_327 : decode cX8_init 327 = .ok (.bipush 101, 2) := by decide +kernel
theorem dX8_init_329 : decode cX8_init 329 = .ok (.iastore, 1) := by decide +kernel
theorem dX8_init_330 : decode cX8_init 330 = .ok (.putfield 59, 3) := by decide +kernel
theorem dX8_init_333 : decode cX8_init 333 = .ok (.aload_n 0, 1) := by decide +kernel
theorem dX8_init_334 : decode cX8_init 334 = .ok (.bipush 7, 2) := by decide +kernel
theorem dX8_init_336 : decode cX8_init 336 = .ok (.newarray .int, 2) := by decide +kernel
theorem dX8_init_338 : decode cX8_init 338 = .ok (.dup, 1) := by decide +kernel
theorem dX8_init_339 : decode cX8_init 339 = .ok (.iconst 0, 1) := by decide +kernel
theorem dX8_init_340 : decode cX8_init 340 = .ok (.iconst 0, 1) := by decide +kernel
theorem dX8_init_341 : decode cX8_init 341 = .ok (.iastore, 1) := by decide +kernel
theorem dX8_init_342 : decode cX8_init 342 = .ok (.dup, 1) := by decide +kernel
theorem dX8_init_343 : decode cX8_init 343 = .ok (.iconst 1, 1) := by decide +kernel
theorem dX8_init_344 : decode cX8_init 344 = .ok (.bipush 8, 2) := by decide +kernel
theorem dX8_init_346 : decode cX8_init 346 = .ok (.iastore, 1) := by decide +kernel
theorem dX8_init_347 : decode cX8_init 347 = .ok (.dup, 1) := by decide +kernel
theorem dX8_init_348 : decode cX8_init 348 = .ok (.iconst 2, 1) := by decide +kernel
theorem dX8_init_349 : decode cX8_init 349 = .ok (.bipush 11, 2) := by decide +kernel
theorem dX8_init_351 : decode cX8_init 351 = .ok (.iastore, 1) := by decide +kernel
theorem dX8_init_352 : decode cX8_init 352 = .ok (.dup, 1) := by decide +kernel
theorem dX8_init_353 : decode cX8_init 353 = .ok (.iconst 3, 1) := by decide +kernel
theorem dX8_init_354 : decode cX8_init 354 = .ok (.bipush 14, 2) := by decide +kernel
theorem dX8_init_356 : decode cX8_init 356 = .ok (.iastore, 1) := by decide +kernel
theorem dX8_init_357 : decode cX8_init 357 = .ok (.dup, 1) := by decide +kernel
theorem dX8_init_358 : decode cX8_init 358 = .ok (.iconst 4, 1) := by decide +kernel
theorem dX8_init_359 : decode cX8_init 359 = .ok (.bipush 20, 2) := by decide +kernel
theorem dX8_init_361 : decode cX8_init 361 = .ok (.iastore, 1) := by decide +kernel
theorem dX8_init_362 : decode cX8_init 362 = .ok (.dup, 1) := by decide +kernel
theorem dX8_init_363 : decode cX8_init 363 = .ok (.iconst 5, 1) := by decide +kernel
theorem dX8_init_364 : decode cX8_init 364 = .ok (.bipush 24, 2) := by decide +kernel
theorem dX8_init_366 : decode cX8_init 366 = .ok (.iastore, 1) := by decide +kernel
theorem dX8_init_367 : decode cX8_init 367 = .ok (.dup, 1) := by decide +kernel
theorem dX8_init_368 : decode cX8_init 368 = .ok (.bipush 6, 2) := by decide +kernel
theorem dX8_init_370 : decode cX8_init 370 = .ok (.bipush 37, 2) := by decide +kernel
theorem dX8_init_372 : decode cX8_init 372 = .ok (.iastore, 1) := by decide +kernel
theorem dX8_init_373 : decode cX8_init 373 = .ok (.putfield 62, 3) := by decide +kernel
theorem dX8_init_376 : decode cX8_init 376 = .ok (.aload_n 0, 1) := by decide +kernel
theorem dX8_init_377 : decode cX8_init 377 = .ok (.bipush 60, 2) := by decide +kernel
theorem dX8_init_379 : decode cX8_init 379 = .ok (.newarray .int, 2) := by decide +kernel
theorem dX8_init_381 : decode cX8_init 381 = .ok (.putfield 65, 3) := by decide +kernel
theorem dX8_init_384 : decode cX8_init 384 = .ok (.aload_n 0, 1) := by decide +kernel
theorem dX8_init_385 : decode cX8_init 385 = .ok (.sipush 400, 3) := by decide +kernel
theorem dX8_init_388 : decode cX8_init 388 = .ok (.newarray .int, 2) := by decide +kernel
theorem dX8_init_390 : decode cX8_init 390 = .ok (.putfield 68, 3) := by decide +kernel
theorem dX8_init_393 : decode cX8_init 393 = .ok (.aload_n 0, 1) := by decide +kernel
theorem dX8_init_394 : decode cX8_init 394 = .ok (.iconst 4, 1) := by decide +kernel
theorem dX8_init_395 : decode cX8_init 395 = .ok (.newarray .int, 2) := by decide +kernel
theorem dX8_init_397 : decode cX8_init 397 = .ok (.putfield 71, 3) := by decide +kernel
theorem dX8_init_400 : decode cX8_init 400 = .ok (.aload_n 0, 1) := by decide +kernel
theorem dX8_init_401 : decode cX8_init 401 = .ok (.iconst 4, 1) := by decide +kernel
theorem dX8_init_402 : decode cX8_init 402 = .ok (.newarray .int, 2) := by decide +kernel
theorem dX8_init_404 : decode cX8_init 404 = .ok (.putfield 74, 3) := by decide +kernel
theorem dX8_init_407 : decode cX8_init 407 = .ok (.aload_n 0, 1) := by decide +kernel
theorem dX8_init_408 : decode cX8_init 408 = .ok (.sipush 160, 3) := by decide +kernel
theorem dX8_init_411 : decode cX8_init 411 = .ok (.newarray .long, 2) := by decide +kernel
theorem dX8_init_413 : decode cX8_init 413 = .ok (.putfield 77, 3) := by decide +kernel
theorem dX8_init_416 : decode cX8_init 416 = .ok (.aload_n 0, 1) := by decide +kernel
theorem dX8_init_417 : decode cX8_init 417 = .ok (.bipush 40, 2) := by decide +kernel
theorem dX8_init_419 : decode cX8_init 419 = .ok (.newarray .long, 2) := by decide +kernel
theorem dX8_init_421 : decode cX8_init 421 = .ok (.putfield 80, 3) := by decide +kernel
theorem dX8_init_424 : decode cX8_init 424 = .ok (.aload_n 0, 1) := by decide +kernel
theorem dX8_init_425 : decode cX8_init 425 = .ok (.sipush 2310, 3) := by decide +kernel
theorem dX8_init_428 : decode cX8_init 428 = .ok (.newarray .long, 2) := by decide +kernel
theorem dX8_init_430 : decode cX8_init 430 = .ok (.putfield 83, 3) := by decide +kernel
theorem dX8_init_433 : decode cX8_init 433 = .ok (.aload_n 0, 1) := by decide +kernel
theorem dX8_init_434 : decode cX8_init 434 = .ok (.invokevirtual 86, 3) := by decide +kernel
theorem dX8_init_437 : decode cX8_init 437 = .ok (.iconst 0, 1) := by decide +kernel
theorem dX8_init_438 : decode cX8_init 438 = .ok (.istore_n 1, 1) := by decide +kernel
theorem dX8_init_439 : decode cX8_init 439 = .ok (.iload_n 1, 1) := by decide +kernel
theorem dX8_init_440 : decode cX8_init 440 = .ok (.iconst 4, 1) := by decide +kernel
theorem dX8_init_441 : decode cX8_init 441 = .ok (.if_icmp .ge 16, 3) := by decide +kernel
theorem dX8_init_444 : decode cX8_init 444 = .ok (.aload_n 0, 1) := by decide +kernel
theorem dX8_init_445 : decode cX8_init 445 = .ok (.getfield 74, 3) := by decide +kernel
theorem dX8_init_448 : decode cX8_init 448 = .ok (.iload_n 1, 1) := by decide +kernel
theorem dX8_init_449 : decode cX8_init 449 = .ok (.iconst (-1), 1) := by decide +kernel
theorem dX8_init_450 : decode cX8_init 450 = .ok (.iastore, 1) := by decide +kernel
theorem dX8_init_451 : decode cX8_init 451 = .ok (.iinc 1 1, 3) := by decide +kernel
theorem dX8_init_454 : decode cX8_init 454 = .ok (.goto (-15), 3) := by decide +kernel
theorem dX8_init_457 : decode cX8_init 457 = .ok (.return_, 1) := by decide +kernel
theorem dX8_load_0 : decode cX8_load 0 = .ok (.iconst 0, 1) := by decide +kernel
theorem dX8_load_1 : decode cX8_load 1 = .ok (.istore 4, 2) := by decide +kernel
theorem dX8_load_3 : decode cX8_load 3 = .ok (.iload 4, 2) := by decide +kernel
theorem dX8_load_5 : decode cX8_load 5 = .ok (.bipush 24, 2) := by decide +kernel
theorem dX8_load_7 : decode cX8_load 7 = .ok (.if_icmp .ge 32, 3) := by decide +kernel
theorem dX8_load_10 : decode cX8_load 10 = .ok (.aload_n 3, 1) := by decide +kernel
theorem dX8_load_11 : decode cX8_load 11 = .ok (.iload 4, 2) := by decide +kernel
theorem dX8_load_13 : decode cX8_load 13 = .ok (.iload 4, 2) := by decide +kernel
theorem dX8_load_15 : decode cX8_load 15 = .ok (.aload_n 0, 1) := by decide +kernel
theorem dX8_load_16 : decode cX8_load 16 = .ok (.getfield 17, 3) := by decide +kernel
theorem dX8_load_19 : decode cX8_load 19 = .ok (.if_icmp .ge 12, 3) := by decide +kernel
theorem dX8_load_22 : decode cX8_load 22 = .ok (.aload_n 1, 1) := by decide +kernel
theorem dX8_load_23 : decode cX8_load 23 = .ok (.iload_n 2, 1) := by decide +kernel
theorem dX8_load_24 : decode cX8_load 24 = .ok (.iload 4, 2) := by decide +kernel
theorem dX8_load_26 : decode cX8_load 26 = .ok (.iadd, 1) := by decide +kernel
theorem dX8_load_27 : decode cX8_load 27 = .ok (.laload, 1) := by decide +kernel
theorem dX8_load_28 : decode cX8_load 28 = .ok (.goto 4, 3) := by decide +kernel
theorem dX8_load_31 : decode cX8_load 31 = .ok (.lconst 0, 1) := by decide +kernel
theorem dX8_load_32 : decode cX8_load 32 = .ok (.lastore, 1) := by decide +kernel
theorem dX8_load_33 : decode cX8_load 33 = .ok (.iinc 4 1, 3) := by decide +kernel
theorem dX8_load_36 : decode cX8_load 36 = .ok (.goto (-33), 3) := by decide +kernel
theorem dX8_load_39 : decode cX8_load 39 = .ok (.return_, 1) := by decide +kernel
theorem dX8_makeOne_0 : decode cX8_makeOne 0 = .ok (.iconst 0, 1) := by decide +kernel
theorem dX8_makeOne_1 : decode cX8_makeOne 1 = .ok (.istore_n 2, 1) := by decide +kernel
theorem dX8_makeOne_2 : decode cX8_makeOne 2 = .ok (.iload_n 2, 1) := by decide +kernel
theorem dX8_makeOne_3 : decode cX8_makeOne 3 = .ok (.bipush 24, 2) := by decide +kernel
theorem dX8_makeOne_5 : decode cX8_makeOne 5 = .ok (.if_icmp .ge 21, 3) := by decide +kernel
theorem dX8_makeOne_8 : decode cX8_makeOne 8 = .ok (.aload_n 1, 1) := by decide +kernel
theorem dX8_makeOne_9 : decode cX8_makeOne 9 = .ok (.iload_n 2, 1) := by decide +kernel
theorem dX8_makeOne_10 : decode cX8_makeOne 10 = .ok (.iload_n 2, 1) := by decide +kernel
theorem dX8_makeOne_11 : decode cX8_makeOne 11 = .ok (.ifCond .ne 7, 3) := by decide +kernel
theorem dX8_makeOne_14 : decode cX8_makeOne 14 = .ok (.lconst 1, 1) := by decide +kernel
theorem dX8_makeOne_15 : decode cX8_makeOne 15 = .ok (.goto 4, 3) := by decide +kernel
theorem dX8_makeOne_18 : decode cX8_makeOne 18 = .ok (.lconst 0, 1) := by decide +kernel
theorem dX8_makeOne_19 : decode cX8_makeOne 19 = .ok (.lastore, 1) := by decide +kernel
theorem dX8_makeOne_20 : decode cX8_makeOne 20 = .ok (.iinc 2 1, 3) := by decide +kernel
theorem dX8_makeOne_23 : decode cX8_makeOne 23 = .ok (.goto (-21), 3) := by decide +kernel
theorem dX8_makeOne_26 : decode cX8_makeOne 26 = .ok (.return_, 1) := by decide +kernel
theorem dX8_makeZero_0 : decode cX8_makeZero 0 = .ok (.iconst 0, 1) := by decide +kernel
theorem dX8_makeZero_1 : decode cX8_makeZero 1 = .ok (.istore_n 2, 1) := by decide +kernel
theorem dX8_makeZero_2 : decode cX8_makeZero 2 = .ok (.iload_n 2, 1) := by decide +kernel
theorem dX8_makeZero_3 : decode cX8_makeZero 3 = .ok (.bipush 24, 2) := by decide +kernel
theorem dX8_makeZero_5 : decode cX8_makeZero 5 = .ok (.if_icmp .ge 13, 3) := by decide +kernel
theorem dX8_makeZero_8 : decode cX8_makeZero 8 = .ok (.aload_n 1, 1) := by decide +kernel
theorem dX8_makeZero_9 : decode cX8_makeZero 9 = .ok (.iload_n 2, 1) := by decide +kernel
theorem dX8_makeZero_10 : decode cX8_makeZero 10 = .ok (.lconst 0, 1) := by decide +kernel
theorem dX8_makeZero_11 : decode cX8_makeZero 11 = .ok (.lastore, 1) := by decide +kernel
theorem dX8_makeZero_12 : decode cX8_makeZero 12 = .ok (.iinc 2 1, 3) := by decide +kernel
theorem dX8_makeZero_15 : decode cX8_makeZero 15 = .ok (.goto (-13), 3) := by decide +kernel
theorem dX8_makeZero_18 : decode cX8_makeZero 18 = .ok (.return_, 1) := by decide +kernel
theorem dX8_timesBinomial_0 : decode cX8_timesBinomial 0 = .ok (.iload_n 3, 1) := by decide +kernel
theorem dX8_timesBinomial_1 : decode cX8_timesBinomial 1 = .ok (.ifCond .le 39, 3) := by decide +kernel
theorem dX8_timesBinomial_4 : decode cX8_timesBinomial 4 = .ok (.aload_n 0, 1) := by decide +kernel
theorem dX8_timesBinomial_5 : decode cX8_timesBinomial 5 = .ok (.getfield 17, 3) := by decide +kernel
theorem dX8_timesBinomial_8 : decode cX8_timesBinomial 8 = .ok (.iconst 1, 1) := by decide +kernel
theorem dX8_timesBinomial_9 : decode cX8_timesBinomial 9 = .ok (.isub, 1) := by decide +kernel
theorem dX8_timesBinomial_10 : decode cX8_timesBinomial 10 = .ok (.istore 4, 2) := by decide +kernel
theorem dX8_timesBinomial_12 : decode cX8_timesBinomial 12 = .ok (.iload 4, 2) := by decide +kernel
theorem dX8_timesBinomial_14 : decode cX8_timesBinomial 14 = .ok (.iload_n 2, 1) := by decide +kernel
theorem dX8_timesBinomial_15 : decode cX8_timesBinomial 15 = .ok (.if_icmp .lt 22, 3) := by decide +kernel
theorem dX8_timesBinomial_18 : decode cX8_timesBinomial 18 = .ok (.aload_n 1, 1) := by decide +kernel
theorem dX8_timesBinomial_19 : decode cX8_timesBinomial 19 = .ok (.iload 4, 2) := by decide +kernel
theorem dX8_timesBinomial_21 : decode cX8_timesBinomial 21 = .ok (.dup2, 1) := by decide +kernel
theorem dX8_timesBinomial_22 : decode cX8_timesBinomial 22 = .ok (.laload, 1) := by decide +kernel
theorem dX8_timesBinomial_23 : decode cX8_timesBinomial 23 = .ok (.aload_n 1, 1) := by decide +kernel
theorem dX8_timesBinomial_24 : decode cX8_timesBinomial 24 = .ok (.iload 4, 2) := by decide +kernel
theorem dX8_timesBinomial_26 : decode cX8_timesBinomial 26 = .ok (.iload_n 2, 1) := by decide +kernel
theorem dX8_timesBinomial_27 : decode cX8_timesBinomial 27 = .ok (.isub, 1) := by decide +kernel
theorem dX8_timesBinomial_28 : decode cX8_timesBinomial 28 = .ok (.laload, 1) := by decide +kernel
theorem dX8_timesBinomial_29 : decode cX8_timesBinomial 29 = .ok (.lsub, 1) := by decide +kernel
theorem dX8_timesBinomial_30 : decode cX8_timesBinomial 30 = .ok (.lastore, 1) := by decide +kernel
theorem dX8_timesBinomial_31 : decode cX8_timesBinomial 31 = .ok (.iinc 4 (-1), 3) := by decide +kernel
theorem dX8_timesBinomial_34 : decode cX8_timesBinomial 34 = .ok (.goto (-22), 3) := by decide +kernel
theorem dX8_timesBinomial_37 : decode cX8_timesBinomial 37 = .ok (.goto 34, 3) := by decide +kernel
theorem dX8_timesBinomial_40 : decode cX8_timesBinomial 40 = .ok (.iload_n 2, 1) := by decide +kernel
theorem dX8_timesBinomial_41 : decode cX8_timesBinomial 41 = .ok (.istore 4, 2) := by decide +kernel
theorem dX8_timesBinomial_43 : decode cX8_timesBinomial 43 = .ok (.iload 4, 2) := by decide +kernel
theorem dX8_timesBinomial_45 : decode cX8_timesBinomial 45 = .ok (.aload_n 0, 1) := by decide +kernel
theorem dX8_timesBinomial_46 : decode cX8_timesBinomial 46 = .ok (.getfield 17, 3) := by decide +kernel
theorem dX8_timesBinomial_49 : decode cX8_timesBinomial 49 = .ok (.if_icmp .ge 22, 3) := by decide +kernel
theorem dX8_timesBinomial_52 : decode cX8_timesBinomial 52 = .ok (.aload_n 1, 1) := by decide +kernel
theorem dX8_timesBinomial_53 : decode cX8_timesBinomial 53 = .ok (.iload 4, 2) := by decide +kernel
theorem dX8_timesBinomial_55 : decode cX8_timesBinomial 55 = .ok (.dup2, 1) := by decide +kernel
theorem dX8_timesBinomial_56 : decode cX8_timesBinomial 56 = .ok (.laload, 1) := by decide +kernel
theorem dX8_timesBinomial_57 : decode cX8_timesBinomial 57 = .ok (.aload_n 1, 1) := by decide +kernel
theorem dX8_timesBinomial_58 : decode cX8_timesBinomial 58 = .ok (.iload 4, 2) := by decide +kernel
theorem dX8_timesBinomial_60 : decode cX8_timesBinomial 60 = .ok (.iload_n 2, 1) := by decide +kernel
theorem dX8_timesBinomial_61 : decode cX8_timesBinomial 61 = .ok (.isub, 1) := by decide +kernel
theorem dX8_timesBinomial_62 : decode cX8_timesBinomial 62 = .ok (.laload, 1) := by decide +kernel
theorem dX8_timesBinomial_63 : decode cX8_timesBinomial 63 = .ok (.ladd, 1) := by decide +kernel
theorem dX8_timesBinomial_64 : decode cX8_timesBinomial 64 = .ok (.lastore, 1) := by decide +kernel
theorem dX8_timesBinomial_65 : decode cX8_timesBinomial 65 = .ok (.iinc 4 1, 3) := by decide +kernel
theorem dX8_timesBinomial_68 : decode cX8_timesBinomial 68 = .ok (.goto (-25), 3) := by decide +kernel
theorem dX8_timesBinomial_71 : decode cX8_timesBinomial 71 = .ok (.return_, 1) := by decide +kernel
theorem dX8_timesPochhammer_0 : decode cX8_timesPochhammer 0 = .ok (.iconst 1, 1) := by decide +kernel
theorem dX8_timesPochhammer_1 : decode cX8_timesPochhammer 1 = .ok (.istore 5, 2) := by decide +kernel
theorem dX8_timesPochhammer_3 : decode cX8_timesPochhammer 3 = .ok (.iload 5, 2) := by decide +kernel
theorem dX8_timesPochhammer_5 : decode cX8_timesPochhammer 5 = .ok (.iload_n 3, 1) := by decide +kernel
theorem dX8_timesPochhammer_6 : decode cX8_timesPochhammer 6 = .ok (.if_icmp .gt 20, 3) := by decide +kernel
theorem dX8_timesPochhammer_9 : decode cX8_timesPochhammer 9 = .ok (.aload_n 0, 1) := by decide +kernel
theorem dX8_timesPochhammer_10 : decode cX8_timesPochhammer 10 = .ok (.aload_n 1, 1) := by decide +kernel
theorem dX8_timesPochhammer_11 : decode cX8_timesPochhammer 11 = .ok (.iload_n 2, 1) := by decide +kernel
theorem dX8_timesPochhammer_12 : decode cX8_timesPochhammer 12 = .ok (.iload 5, 2) := by decide +kernel
theorem dX8_timesPochhammer_14 : decode cX8_timesPochhammer 14 = .ok (.iadd, 1) := by decide +kernel
theorem dX8_timesPochhammer_15 : decode cX8_timesPochhammer 15 = .ok (.iload 4, 2) := by decide +kernel
theorem dX8_timesPochhammer_17 : decode cX8_timesPochhammer 17 = .ok (.invokevirtual 89, 3) := by decide +kernel
theorem dX8_timesPochhammer_20 : decode cX8_timesPochhammer 20 = .ok (.iinc 5 1, 3) := by decide +kernel
theorem dX8_timesPochhammer_23 : decode cX8_timesPochhammer 23 = .ok (.goto (-20), 3) := by decide +kernel
theorem dX8_timesPochhammer_26 : decode cX8_timesPochhammer 26 = .ok (.return_, 1) := by decide +kernel
theorem dX8_shiftBy_0 : decode cX8_shiftBy 0 = .ok (.aload_n 0, 1) := by decide +kernel
theorem dX8_shiftBy_1 : decode cX8_shiftBy 1 = .ok (.getfield 17, 3) := by decide +kernel
theorem dX8_shiftBy_4 : decode cX8_shiftBy 4 = .ok (.iconst 1, 1) := by decide +kernel
theorem dX8_shiftBy_5 : decode cX8_shiftBy 5 = .ok (.isub, 1) := by decide +kernel
theorem dX8_shiftBy_6 : decode cX8_shiftBy 6 = .ok (.istore_n 3, 1) := by decide +kernel
theorem dX8_shiftBy_7 : decode cX8_shiftBy 7 = .ok (.iload_n 3, 1) := by decide +kernel
theorem dX8_shiftBy_8 : decode cX8_shiftBy 8 = .ok (.ifCond .lt 26, 3) := by decide +kernel
theorem dX8_shiftBy_11 : decode cX8_shiftBy 11 = .ok (.aload_n 1, 1) := by decide +kernel
theorem dX8_shiftBy_12 : decode cX8_shiftBy 12 = .ok (.iload_n 3, 1) := by decide +kernel
theorem dX8_shiftBy_13 : decode cX8_shiftBy 13 = .ok (.iload_n 3, 1) := by decide +kernel
theorem dX8_shiftBy_14 : decode cX8_shiftBy 14 = .ok (.iload_n 2, 1) := by decide +kernel
theorem dX8_shiftBy_15 : decode cX8_shiftBy 15 = .ok (.if_icmp .lt 11, 3) := by decide +kernel
theorem dX8_shiftBy_18 : decode cX8_shiftBy 18 = .ok (.aload_n 1, 1) := by decide +kernel
theorem dX8_shiftBy_19 : decode cX8_shiftBy 19 = .ok (.iload_n 3, 1) := by decide +kernel
theorem dX8_shiftBy_20 : decode cX8_shiftBy 20 = .ok (.iload_n 2, 1) := by decide +kernel
theorem dX8_shiftBy_21 : decode cX8_shiftBy 21 = .ok (.isub, 1) := by decide +kernel
theorem dX8_shiftBy_22 : decode cX8_shiftBy 22 = .ok (.laload, 1) := by decide +kernel
theorem dX8_shiftBy_23 : decode cX8_shiftBy 23 = .ok (.goto 4, 3) := by decide +kernel
theorem dX8_shiftBy_26 : decode cX8_shiftBy 26 = .ok (.lconst 0, 1) := by decide +kernel
theorem dX8_shiftBy_27 : decode cX8_shiftBy 27 = .ok (.lastore, 1) := by decide +kernel
theorem dX8_shiftBy_28 : decode cX8_shiftBy 28 = .ok (.iinc 3 (-1), 3) := by decide +kernel
theorem dX8_shiftBy_31 : decode cX8_shiftBy 31 = .ok (.goto (-24), 3) := by decide +kernel
theorem dX8_shiftBy_34 : decode cX8_shiftBy 34 = .ok (.return_, 1) := by decide +kernel
theorem dX8_isInRange_0 : decode cX8_isInRange 0 = .ok (.iconst 1, 1) := by decide +kernel
theorem dX8_isInRange_1 : decode cX8_isInRange 1 = .ok (.istore_n 1, 1) := by decide +kernel
theorem dX8_isInRange_2 : decode cX8_isInRange 2 = .ok (.iconst 0, 1) := by decide +kernel
theorem dX8_isInRange_3 : decode cX8_isInRange 3 = .ok (.istore_n 2, 1) := by decide +kernel
theorem dX8_isInRange_4 : decode cX8_isInRange 4 = .ok (.iload_n 2, 1) := by decide +kernel
theorem dX8_isInRange_5 : decode cX8_isInRange 5 = .ok (.bipush 24, 2) := by decide +kernel
theorem dX8_isInRange_7 : decode cX8_isInRange 7 = .ok (.if_icmp .ge 24, 3) := by decide +kernel
theorem dX8_isInRange_10 : decode cX8_isInRange 10 = .ok (.iload_n 1, 1) := by decide +kernel
theorem dX8_isInRange_11 : decode cX8_isInRange 11 = .ok (.aload_n 0, 1) := by decide +kernel
theorem dX8_isInRange_12 : decode cX8_isInRange 12 = .ok (.iload_n 2, 1) := by decide +kernel
theorem dX8_isInRange_13 : decode cX8_isInRange 13 = .ok (.laload, 1) := by decide +kernel
theorem dX8_isInRange_14 : decode cX8_isInRange 14 = .ok (.ldc2_w 93, 3) := by decide +kernel
theorem dX8_isInRange_17 : decode cX8_isInRange 17 = .ok (.ldc2_w 95, 3) := by decide +kernel
theorem dX8_isInRange_20 : decode cX8_isInRange 20 = .ok (.invokestatic 7, 3) := by decide +kernel
theorem dX8_isInRange_23 : decode cX8_isInRange 23 = .ok (.iand, 1) := by decide +kernel
theorem dX8_isInRange_24 : decode cX8_isInRange 24 = .ok (.istore_n 1, 1) := by decide +kernel
theorem dX8_isInRange_25 : decode cX8_isInRange 25 = .ok (.iinc 2 1, 3) := by decide +kernel
theorem dX8_isInRange_28 : decode cX8_isInRange 28 = .ok (.goto (-24), 3) := by decide +kernel
theorem dX8_isInRange_31 : decode cX8_isInRange 31 = .ok (.iload_n 1, 1) := by decide +kernel
theorem dX8_isInRange_32 : decode cX8_isInRange 32 = .ok (.ireturn, 1) := by decide +kernel
theorem dX8_nonzero_0 : decode cX8_nonzero 0 = .ok (.iconst 0, 1) := by decide +kernel
theorem dX8_nonzero_1 : decode cX8_nonzero 1 = .ok (.istore_n 2, 1) := by decide +kernel
theorem dX8_nonzero_2 : decode cX8_nonzero 2 = .ok (.iconst 0, 1) := by decide +kernel
theorem dX8_nonzero_3 : decode cX8_nonzero 3 = .ok (.istore_n 3, 1) := by decide +kernel
theorem dX8_nonzero_4 : decode cX8_nonzero 4 = .ok (.iload_n 3, 1) := by decide +kernel
theorem dX8_nonzero_5 : decode cX8_nonzero 5 = .ok (.aload_n 0, 1) := by decide +kernel
theorem dX8_nonzero_6 : decode cX8_nonzero 6 = .ok (.getfield 17, 3) := by decide +kernel
theorem dX8_nonzero_9 : decode cX8_nonzero 9 = .ok (.if_icmp .ge 25, 3) := by decide +kernel
theorem dX8_nonzero_12 : decode cX8_nonzero 12 = .ok (.iload_n 2, 1) := by decide +kernel
theorem dX8_nonzero_13 : decode cX8_nonzero 13 = .ok (.aload_n 1, 1) := by decide +kernel
theorem dX8_nonzero_14 : decode cX8_nonzero 14 = .ok (.iload_n 3, 1) := by decide +kernel
theorem dX8_nonzero_15 : decode cX8_nonzero 15 = .ok (.laload, 1) := by decide +kernel
theorem dX8_nonzero_16 : decode cX8_nonzero 16 = .ok (.lconst 0, 1) := by decide +kernel
theorem dX8_nonzero_17 : decode cX8_nonzero 17 = .ok (.lcmp, 1) := by decide +kernel
theorem dX8_nonzero_18 : decode cX8_nonzero 18 = .ok (.ifCond .eq 7, 3) := by decide +kernel
theorem dX8_nonzero_21 : decode cX8_nonzero 21 = .ok (.iconst 1, 1) := by decide +kernel
theorem dX8_nonzero_22 : decode cX8_nonzero 22 = .ok (.goto 4, 3) := by decide +kernel
theorem dX8_nonzero_25 : decode cX8_nonzero 25 = .ok (.iconst 0, 1) := by decide +kernel
theorem dX8_nonzero_26 : decode cX8_nonzero 26 = .ok (.iadd, 1) := by decide +kernel
theorem dX8_nonzero_27 : decode cX8_nonzero 27 = .ok (.istore_n 2, 1) := by decide +kernel
theorem dX8_nonzero_28 : decode cX8_nonzero 28 = .ok (.iinc 3 1, 3) := by decide +kernel
theorem dX8_nonzero_31 : decode cX8_nonzero 31 = .ok (.goto (-27), 3) := by decide +kernel
theorem dX8_nonzero_34 : decode cX8_nonzero 34 = .ok (.iload_n 2, 1) := by decide +kernel
theorem dX8_nonzero_35 : decode cX8_nonzero 35 = .ok (.ireturn, 1) := by decide +kernel
theorem dX8_store_0 : decode cX8_store 0 = .ok (.aload_n 0, 1) := by decide +kernel
theorem dX8_store_1 : decode cX8_store 1 = .ok (.getfield 34, 3) := by decide +kernel
theorem dX8_store_4 : decode cX8_store 4 = .ok (.invokestatic 97, 3) := by decide +kernel
theorem dX8_store_7 : decode cX8_store 7 = .ok (.ifCond .ne 6, 3) := by decide +kernel
theorem dX8_store_10 : decode cX8_store 10 = .ok (.bipush (-3), 2) := by decide +kernel
theorem dX8_store_12 : decode cX8_store 12 = .ok (.ireturn, 1) := by decide +kernel
theorem dX8_store_13 : decode cX8_store 13 = .ok (.iconst 0, 1) := by decide +kernel
theorem dX8_store_14 : decode cX8_store 14 = .ok (.istore_n 2, 1) := by decide +kernel
theorem dX8_store_15 : decode cX8_store 15 = .ok (.iload_n 2, 1) := by decide +kernel
theorem dX8_store_16 : decode cX8_store 16 = .ok (.bipush 24, 2) := by decide +kernel
theorem dX8_store_18 : decode cX8_store 18 = .ok (.if_icmp .ge 26, 3) := by decide +kernel
theorem dX8_store_21 : decode cX8_store 21 = .ok (.aload_n 0, 1) := by decide +kernel
theorem dX8_store_22 : decode cX8_store 22 = .ok (.getfield 21, 3) := by decide +kernel
theorem dX8_store_25 : decode cX8_store 25 = .ok (.bipush 24, 2) := by decide +kernel
theorem dX8_store_27 : decode cX8_store 27 = .ok (.iload_n 1, 1) := by decide +kernel
theorem dX8_store_28 : decode cX8_store 28 = .ok (.imul, 1) := by decide +kernel
theorem dX8_store_29 : decode cX8_store 29 = .ok (.iload_n 2, 1) := by decide +kernel
theorem dX8_store_30 : decode cX8_store 30 = .ok (.iadd, 1) := by decide +kernel
theorem dX8_store_31 : decode cX8_store 31 = .ok (.aload_n 0, 1) := by decide +kernel
theorem dX8_store_32 : decode cX8_store 32 = .ok (.getfield 34, 3) := by decide +kernel
theorem dX8_store_35 : decode cX8_store 35 = .ok (.iload_n 2, 1) := by decide +kernel
theorem dX8_store_36 : decode cX8_store 36 = .ok (.laload, 1) := by decide +kernel
theorem dX8_store_37 : decode cX8_store 37 = .ok (.lastore, 1) := by decide +kernel
theorem dX8_store_38 : decode cX8_store 38 = .ok (.iinc 2 1, 3) := by decide +kernel
theorem dX8_store_41 : decode cX8_store 41 = .ok (.goto (-26), 3) := by decide +kernel
theorem dX8_store_44 : decode cX8_store 44 = .ok (.aload_n 0, 1) := by decide +kernel
theorem dX8_store_45 : decode cX8_store 45 = .ok (.aload_n 0, 1) := by decide +kernel
theorem dX8_store_46 : decode cX8_store 46 = .ok (.getfield 34, 3) := by decide +kernel
theorem dX8_store_49 : decode cX8_store 49 = .ok (.invokevirtual 101, 3) := by decide +kernel
theorem dX8_store_52 : decode cX8_store 52 = .ok (.ireturn, 1) := by decide +kernel
theorem dX8_reset_0 : decode cX8_reset 0 = .ok (.iload_n 1, 1) := by decide +kernel
theorem dX8_reset_1 : decode cX8_reset 1 = .ok (.i2l, 1) := by decide +kernel
theorem dX8_reset_2 : decode cX8_reset 2 = .ok (.ldc2_w 105, 3) := by decide +kernel
theorem dX8_reset_5 : decode cX8_reset 5 = .ok (.ldc2_w 107, 3) := by decide +kernel
theorem dX8_reset_8 : decode cX8_reset 8 = .ok (.invokestatic 7, 3) := by decide +kernel
theorem dX8_reset_11 : decode cX8_reset 11 = .ok (.ifCond .ne 5, 3) := by decide +kernel
theorem dX8_reset_14 : decode cX8_reset 14 = .ok (.iconst (-1), 1) := by decide +kernel
theorem dX8_reset_15 : decode cX8_reset 15 = .ok (.ireturn, 1) := by decide +kernel
theorem dX8_reset_16 : decode cX8_reset 16 = .ok (.aload_n 0, 1) := by decide +kernel
theorem dX8_reset_17 : decode cX8_reset 17 = .ok (.getfield 17, 3) := by decide +kernel
theorem dX8_reset_20 : decode cX8_reset 20 = .ok (.istore_n 2, 1) := by decide +kernel
theorem dX8_reset_21 : decode cX8_reset 21 = .ok (.aload_n 0, 1) := by decide +kernel
theorem dX8_reset_22 : decode cX8_reset 22 = .ok (.iload_n 1, 1) := by decide +kernel
theorem dX8_reset_23 : decode cX8_reset 23 = .ok (.putfield 17, 3) := by decide +kernel
theorem dX8_reset_26 : decode cX8_reset 26 = .ok (.iconst 0, 1) := by decide +kernel
theorem dX8_reset_27 : decode cX8_reset 27 = .ok (.istore_n 3, 1) := by decide +kernel
theorem dX8_reset_28 : decode cX8_reset 28 = .ok (.iload_n 3, 1) := by decide +kernel
theorem dX8_reset_29 : decode cX8_reset 29 = .ok (.sipush 144, 3) := by decide +kernel
theorem dX8_reset_32 : decode cX8_reset 32 = .ok (.if_icmp .ge 16, 3) := by decide +kernel
theorem dX8_reset_35 : decode cX8_reset 35 = .ok (.aload_n 0, 1) := by decide +kernel
theorem dX8_reset_36 : decode cX8_reset 36 = .ok (.getfield 21, 3) := by decide +kernel
theorem dX8_reset_39 : decode cX8_reset 39 = .ok (.iload_n 3, 1) := by decide +kernel
theorem dX8_reset_40 : decode cX8_reset 40 = .ok (.lconst 0, 1) := by decide +kernel
theorem dX8_reset_41 : decode cX8_reset 41 = .ok (.lastore, 1) := by decide +kernel
theorem dX8_reset_42 : decode cX8_reset 42 = .ok (.iinc 3 1, 3) := by decide +kernel
theorem dX8_reset_45 : decode cX8_reset 45 = .ok (.goto (-17), 3) := by decide +kernel
theorem dX8_reset_48 : decode cX8_reset 48 = .ok (.aload_n 0, 1) := by decide +kernel
theorem dX8_reset_49 : decode cX8_reset 49 = .ok (.iconst 0, 1) := by decide +kernel
theorem dX8_reset_50 : decode cX8_reset 50 = .ok (.putfield 109, 3) := by decide +kernel
theorem dX8_reset_53 : decode cX8_reset 53 = .ok (.aload_n 0, 1) := by decide +kernel
theorem dX8_reset_54 : decode cX8_reset 54 = .ok (.invokevirtual 86, 3) := by decide +kernel
theorem dX8_reset_57 : decode cX8_reset 57 = .ok (.iload_n 2, 1) := by decide +kernel
theorem dX8_reset_58 : decode cX8_reset 58 = .ok (.ireturn, 1) := by decide +kernel
theorem dX8_precision_0 : decode cX8_precision 0 = .ok (.aload_n 0, 1) := by decide +kernel
theorem dX8_precision_1 : decode cX8_precision 1 = .ok (.getfield 17, 3) := by decide +kernel
theorem dX8_precision_4 : decode cX8_precision 4 = .ok (.ireturn, 1) := by decide +kernel
theorem dX8_setCoefficient_0 : decode cX8_setCoefficient 0 = .ok (.iload_n 1, 1) := by decide +kernel
theorem dX8_setCoefficient_1 : decode cX8_setCoefficient 1 = .ok (.invokestatic 112, 3) := by decide +kernel
theorem dX8_setCoefficient_4 : decode cX8_setCoefficient 4 = .ok (.ifCond .ne 6, 3) := by decide +kernel
theorem dX8_setCoefficient_7 : decode cX8_setCoefficient 7 = .ok (.bipush (-2), 2) := by decide +kernel
theorem dX8_setCoefficient_9 : decode cX8_setCoefficient 9 = .ok (.ireturn, 1) := by decide +kernel
theorem dX8_setCoefficient_10 : decode cX8_setCoefficient 10 = .ok (.iload_n 2, 1) := by decide +kernel
theorem dX8_setCoefficient_11 : decode cX8_setCoefficient 11 = .ok (.i2l, 1) := by decide +kernel
theorem dX8_setCoefficient_12 : decode cX8_setCoefficient 12 = .ok (.lconst 0, 1) := by decide +kernel
theorem dX8_setCoefficient_13 : decode cX8_setCoefficient 13 = .ok (.aload_n 0, 1) := by decide +kernel
theorem dX8_setCoefficient_14 : decode cX8_setCoefficient 14 = .ok (.getfield 17, 3) := by decide +kernel
theorem dX8_setCoefficient_17 : decode cX8_setCoefficient 17 = .ok (.iconst 1, 1) := by decide +kernel
theorem dX8_setCoefficient_18 : decode cX8_setCoefficient 18 = .ok (.isub, 1) := by decide +kernel
theorem dX8_setCoefficient_19 : decode cX8_setCoefficient 19 = .ok (.i2l, 1) := by decide +kernel
theorem dX8_setCoefficient_20 : decode cX8_setCoefficient 20 = .ok (.invokestatic 7, 3) := by decide +kernel
theorem dX8_setCoefficient_23 : decode cX8_setCoefficient 23 = .ok (.ifCond .ne 5, 3) := by decide +kernel
theorem dX8_setCoefficient_26 : decode cX8_setCoefficient 26 = .ok (.iconst (-1), 1) := by decide +kernel
theorem dX8_setCoefficient_27 : decode cX8_setCoefficient 27 = .ok (.ireturn, 1) := by decide +kernel
theorem dX8_setCoefficient_28 : decode cX8_setCoefficient 28 = .ok (.iload_n 3, 1) := by decide +kernel
theorem dX8_setCoefficient_29 : decode cX8_setCoefficient 29 = .ok (.i2l, 1) := by decide +kernel
theorem dX8_setCoefficient_30 : decode cX8_setCoefficient 30 = .ok (.ldc2_w 93, 3) := by decide +kernel
theorem dX8_setCoefficient_33 : decode cX8_setCoefficient 33 = .ok (.ldc2_w 95, 3) := by decide +kernel
theorem dX8_setCoefficient_36 : decode cX8_setCoefficient 36 = .ok (.invokestatic 7, 3) := by decide +kernel
theorem dX8_setCoefficient_39 : decode cX8_setCoefficient 39 = .ok (.ifCond .ne 6, 3) := by decide +kernel
theorem dX8_setCoefficient_42 : decode cX8_setCoefficient 42 = .ok (.bipush (-3), 2) := by decide +kernel
theorem dX8_setCoefficient_44 : decode cX8_setCoefficient 44 = .ok (.ireturn, 1) := by decide +kernel
theorem dX8_setCoefficient_45 : decode cX8_setCoefficient 45 = .ok (.bipush 24, 2) := by decide +kernel
theorem dX8_setCoefficient_47 : decode cX8_setCoefficient 47 = .ok (.iload_n 1, 1) := by decide +kernel
theorem dX8_setCoefficient_48 : decode cX8_setCoefficient 48 = .ok (.imul, 1) := by decide +kernel
theorem dX8_setCoefficient_49 : decode cX8_setCoefficient 49 = .ok (.iload_n 2, 1) := by decide +kernel
theorem dX8_setCoefficient_50 : decode cX8_setCoefficient 50 = .ok (.iadd, 1) := by decide +kernel
theorem dX8_setCoefficient_51 : decode cX8_setCoefficient 51 = .ok (.istore 4, 2) := by decide +kernel
theorem dX8_setCoefficient_53 : decode cX8_setCoefficient 53 = .ok (.aload_n 0, 1) := by decide +kernel
theorem dX8_setCoefficient_54 : decode cX8_setCoefficient 54 = .ok (.getfield 21, 3) := by decide +kernel
theorem dX8_setCoefficient_57 : decode cX8_setCoefficient 57 = .ok (.iload 4, 2) := by decide +kernel
theorem dX8_setCoefficient_59 : decode cX8_setCoefficient 59 = .ok (.laload, 1) := by decide +kernel
theorem dX8_setCoefficient_60 : decode cX8_setCoefficient 60 = .ok (.iload_n 3, 1) := by decide +kernel
theorem dX8_setCoefficient_61 : decode cX8_setCoefficient 61 = .ok (.i2l, 1) := by decide +kernel
theorem dX8_setCoefficient_62 : decode cX8_setCoefficient 62 = .ok (.lcmp, 1) := by decide +kernel
theorem dX8_setCoefficient_63 : decode cX8_setCoefficient 63 = .ok (.ifCond .eq 7, 3) := by decide +kernel
theorem dX8_setCoefficient_66 : decode cX8_setCoefficient 66 = .ok (.iconst 1, 1) := by decide +kernel
theorem dX8_setCoefficient_67 : decode cX8_setCoefficient 67 = .ok (.goto 4, 3) := by decide +kernel
theorem dX8_setCoefficient_70 : decode cX8_setCoefficient 70 = .ok (.iconst 0, 1) := by decide +kernel
theorem dX8_setCoefficient_71 : decode cX8_setCoefficient 71 = .ok (.istore 5, 2) := by decide +kernel
theorem dX8_setCoefficient_73 : decode cX8_setCoefficient 73 = .ok (.aload_n 0, 1) := by decide +kernel
theorem dX8_setCoefficient_74 : decode cX8_setCoefficient 74 = .ok (.getfield 21, 3) := by decide +kernel
theorem dX8_setCoefficient_77 : decode cX8_setCoefficient 77 = .ok (.iload 4, 2) := by decide +kernel
theorem dX8_setCoefficient_79 : decode cX8_setCoefficient 79 = .ok (.iload_n 3, 1) := by decide +kernel
theorem dX8_setCoefficient_80 : decode cX8_setCoefficient 80 = .ok (.i2l, 1) := by decide +kernel
theorem dX8_setCoefficient_81 : decode cX8_setCoefficient 81 = .ok (.lastore, 1) := by decide +kernel
theorem dX8_setCoefficient_82 : decode cX8_setCoefficient 82 = .ok (.iload 5, 2) := by decide +kernel
theorem dX8_setCoefficient_84 : decode cX8_setCoefficient 84 = .ok (.ireturn, 1) := by decide +kernel
theorem dX8_coefficient_0 : decode cX8_coefficient 0 = .ok (.iload_n 1, 1) := by decide +kernel
theorem dX8_coefficient_1 : decode cX8_coefficient 1 = .ok (.invokestatic 112, 3) := by decide +kernel
theorem dX8_coefficient_4 : decode cX8_coefficient 4 = .ok (.ifCond .eq 33, 3) := by decide +kernel
theorem dX8_coefficient_7 : decode cX8_coefficient 7 = .ok (.iload_n 2, 1) := by decide +kernel
theorem dX8_coefficient_8 : decode cX8_coefficient 8 = .ok (.i2l, 1) := by decide +kernel
theorem dX8_coefficient_9 : decode cX8_coefficient 9 = .ok (.lconst 0, 1) := by decide +kernel
theorem dX8_coefficient_10 : decode cX8_coefficient 10 = .ok (.aload_n 0, 1) := by decide +kernel
theorem dX8_coefficient_11 : decode cX8_coefficient 11 = .ok (.getfield 17, 3) := by decide +kernel
theorem dX8_coefficient_14 : decode cX8_coefficient 14 = .ok (.iconst 1, 1) := by decide +kernel
theorem dX8_coefficient_15 : decode cX8_coefficient 15 = .ok (.isub, 1) := by decide +kernel
theorem dX8_coefficient_16 : decode cX8_coefficient 16 = .ok (.i2l, 1) := by decide +kernel
theorem dX8_coefficient_17 : decode cX8_coefficient 17 = .ok (.invokestatic 7, 3) := by decide +kernel
theorem dX8_coefficient_20 : decode cX8_coefficient 20 = .ok (.ifCond .eq 17, 3) := by decide +kernel
theorem dX8_coefficient_23 : decode cX8_coefficient 23 = .ok (.aload_n 0, 1) := by decide +kernel
theorem dX8_coefficient_24 : decode cX8_coefficient 24 = .ok (.getfield 21, 3) := by decide +kernel
theorem dX8_coefficient_27 : decode cX8_coefficient 27 = .ok (.bipush 24, 2) := by decide +kernel
theorem dX8_coefficient_29 : decode cX8_coefficient 29 = .ok (.iload_n 1, 1) := by decide +kernel
theorem dX8_coefficient_30 : decode cX8_coefficient 30 = .ok (.imul, 1) := by decide +kernel
theorem dX8_coefficient_31 : decode cX8_coefficient 31 = .ok (.iload_n 2, 1) := by decide +kernel
theorem dX8_coefficient_32 : decode cX8_coefficient 32 = .ok (.iadd, 1) := by decide +kernel
theorem dX8_coefficient_33 : decode cX8_coefficient 33 = .ok (.laload, 1) := by decide +kernel
theorem dX8_coefficient_34 : decode cX8_coefficient 34 = .ok (.goto 6, 3) := by decide +kernel
theorem dX8_coefficient_37 : decode cX8_coefficient 37 = .ok (.ldc2_w 116, 3) := by decide +kernel
theorem dX8_coefficient_40 : decode cX8_coefficient 40 = .ok (.lreturn, 1) := by decide +kernel
theorem dX8_lowest_0 : decode cX8_lowest 0 = .ok (.iconst 0, 1) := by decide +kernel
theorem dX8_lowest_1 : decode cX8_lowest 1 = .ok (.istore_n 2, 1) := by decide +kernel
theorem dX8_lowest_2 : decode cX8_lowest 2 = .ok (.iload_n 2, 1) := by decide +kernel
theorem dX8_lowest_3 : decode cX8_lowest 3 = .ok (.aload_n 0, 1) := by decide +kernel
theorem dX8_lowest_4 : decode cX8_lowest 4 = .ok (.getfield 17, 3) := by decide +kernel
theorem dX8_lowest_7 : decode cX8_lowest 7 = .ok (.if_icmp .ge 27, 3) := by decide +kernel
theorem dX8_lowest_10 : decode cX8_lowest 10 = .ok (.aload_n 0, 1) := by decide +kernel
theorem dX8_lowest_11 : decode cX8_lowest 11 = .ok (.getfield 21, 3) := by decide +kernel
theorem dX8_lowest_14 : decode cX8_lowest 14 = .ok (.bipush 24, 2) := by decide +kernel
theorem dX8_lowest_16 : decode cX8_lowest 16 = .ok (.iload_n 1, 1) := by decide +kernel
theorem dX8_lowest_17 : decode cX8_lowest 17 = .ok (.imul, 1) := by decide +kernel
theorem dX8_lowest_18 : decode cX8_lowest 18 = .ok (.iload_n 2, 1) := by decide +kernel
theorem dX8_lowest_19 : decode cX8_lowest 19 = .ok (.iadd, 1) := by decide +kernel
theorem dX8_lowest_20 : decode cX8_lowest 20 = .ok (.laload, 1) := by decide +kernel
theorem dX8_lowest_21 : decode cX8_lowest 21 = .ok (.lconst 0, 1) := by decide +kernel
theorem dX8_lowest_22 : decode cX8_lowest 22 = .ok (.lcmp, 1) := by decide +kernel
theorem dX8_lowest_23 : decode cX8_lowest 23 = .ok (.ifCond .eq 5, 3) := by decide +kernel
theorem dX8_lowest_26 : decode cX8_lowest 26 = .ok (.iload_n 2, 1) := by decide +kernel
theorem dX8_lowest_27 : decode cX8_lowest 27 = .ok (.ireturn, 1) := by decide +kernel
theorem dX8_lowest_28 : decode cX8_lowest 28 = .ok (.iinc 2 1, 3) := by decide +kernel
theorem dX8_lowest_31 : decode cX8_lowest 31 = .ok (.goto (-29), 3) := by decide +kernel
theorem dX8_lowest_34 : decode cX8_lowest 34 = .ok (.bipush (-7), 2) := by decide +kernel
theorem dX8_lowest_36 : decode cX8_lowest 36 = .ok (.ireturn, 1) := by decide +kernel
theorem dX8_highest_0 : decode cX8_highest 0 = .ok (.bipush (-7), 2) := by decide +kernel
theorem dX8_highest_2 : decode cX8_highest 2 = .ok (.istore_n 2, 1) := by decide +kernel
theorem dX8_highest_3 : decode cX8_highest 3 = .ok (.iconst 0, 1) := by decide +kernel
theorem dX8_highest_4 : decode cX8_highest 4 = .ok (.istore_n 3, 1) := by decide +kernel
theorem dX8_highest_5 : decode cX8_highest 5 = .ok (.iload_n 3, 1) := by decide +kernel
theorem dX8_highest_6 : decode cX8_highest 6 = .ok (.aload_n 0, 1) := by decide +kernel
theorem dX8_highest_7 : decode cX8_highest 7 = .ok (.getfield 17, 3) := by decide +kernel
theorem dX8_highest_10 : decode cX8_highest 10 = .ok (.if_icmp .ge 31, 3) := by decide +kernel
theorem dX8_highest_13 : decode cX8_highest 13 = .ok (.aload_n 0, 1) := by decide +kernel
theorem dX8_highest_14 : decode cX8_highest 14 = .ok (.getfield 21, 3) := by decide +kernel
theorem dX8_highest_17 : decode cX8_highest 17 = .ok (.bipush 24, 2) := by decide +kernel
theorem dX8_highest_19 : decode cX8_highest 19 = .ok (.iload_n 1, 1) := by decide +kernel
theorem dX8_highest_20 : decode cX8_highest 20 = .ok (.imul, 1) := by decide +kernel
theorem dX8_highest_21 : decode cX8_highest 21 = .ok (.iload_n 3, 1) := by decide +kernel
theorem dX8_highest_22 : decode cX8_highest 22 = .ok (.iadd, 1) := by decide +kernel
theorem dX8_highest_23 : decode cX8_highest 23 = .ok (.laload, 1) := by decide +kernel
theorem dX8_highest_24 : decode cX8_highest 24 = .ok (.lconst 0, 1) := by decide +kernel
theorem dX8_highest_25 : decode cX8_highest 25 = .ok (.lcmp, 1) := by decide +kernel
theorem dX8_highest_26 : decode cX8_highest 26 = .ok (.ifCond .eq 7, 3) := by decide +kernel
theorem dX8_highest_29 : decode cX8_highest 29 = .ok (.iload_n 3, 1) := by decide +kernel
theorem dX8_highest_30 : decode cX8_highest 30 = .ok (.goto 4, 3) := by decide +kernel
theorem dX8_highest_33 : decode cX8_highest 33 = .ok (.iload_n 2, 1) := by decide +kernel
theorem dX8_highest_34 : decode cX8_highest 34 = .ok (.istore_n 2, 1) := by decide +kernel
theorem dX8_highest_35 : decode cX8_highest 35 = .ok (.iinc 3 1, 3) := by decide +kernel
theorem dX8_highest_38 : decode cX8_highest 38 = .ok (.goto (-33), 3) := by decide +kernel
theorem dX8_highest_41 : decode cX8_highest 41 = .ok (.iload_n 2, 1) := by decide +kernel
theorem dX8_highest_42 : decode cX8_highest 42 = .ok (.ireturn, 1) := by decide +kernel
theorem dX8_order_0 : decode cX8_order 0 = .ok (.iload_n 1, 1) := by decide +kernel
theorem dX8_order_1 : decode cX8_order 1 = .ok (.invokestatic 112, 3) := by decide +kernel
theorem dX8_order_4 : decode cX8_order 4 = .ok (.ifCond .eq 11, 3) := by decide +kernel
theorem dX8_order_7 : decode cX8_order 7 = .ok (.aload_n 0, 1) := by decide +kernel
theorem dX8_order_8 : decode cX8_order 8 = .ok (.iload_n 1, 1) := by decide +kernel
theorem dX8_order_9 : decode cX8_order 9 = .ok (.invokevirtual 118, 3) := by decide +kernel
theorem dX8_order_12 : decode cX8_order 12 = .ok (.goto 5, 3) := by decide +kernel
theorem dX8_order_15 : decode cX8_order 15 = .ok (.bipush (-2), 2) := by decide +kernel
theorem dX8_order_17 : decode cX8_order 17 = .ok (.ireturn, 1) := by decide +kernel
theorem dX8_degree_0 : decode cX8_degree 0 = .ok (.iload_n 1, 1) := by decide +kernel
theorem dX8_degree_1 : decode cX8_degree 1 = .ok (.invokestatic 112, 3) := by decide +kernel
theorem dX8_degree_4 : decode cX8_degree 4 = .ok (.ifCond .eq 11, 3) := by decide +kernel
theorem dX8_degree_7 : decode cX8_degree 7 = .ok (.aload_n 0, 1) := by decide +kernel
theorem dX8_degree_8 : decode cX8_degree 8 = .ok (.iload_n 1, 1) := by decide +kernel
theorem dX8_degree_9 : decode cX8_degree 9 = .ok (.invokevirtual 122, 3) := by decide +kernel
theorem dX8_degree_12 : decode cX8_degree 12 = .ok (.goto 5, 3) := by decide +kernel
theorem dX8_degree_15 : decode cX8_degree 15 = .ok (.bipush (-2), 2) := by decide +kernel
theorem dX8_degree_17 : decode cX8_degree 17 = .ok (.ireturn, 1) := by decide +kernel
theorem dX8_add_0 : decode cX8_add 0 = .ok (.iload_n 1, 1) := by decide +kernel
theorem dX8_add_1 : decode cX8_add 1 = .ok (.invokestatic 112, 3) := by decide +kernel
theorem dX8_add_4 : decode cX8_add 4 = .ok (.ifCond .eq 17, 3) := by decide +kernel
theorem dX8_add_7 : decode cX8_add 7 = .ok (.iload_n 2, 1) := by decide +kernel
theorem dX8_add_8 : decode cX8_add 8 = .ok (.invokestatic 112, 3) := by decide +kernel
theorem dX8_add_11 : decode cX8_add 11 = .ok (.ifCond .eq 10, 3) := by decide +kernel
theorem dX8_add_14 : decode cX8_add 14 = .ok (.iload_n 3, 1) := by decide +kernel
theorem dX8_add_15 : decode cX8_add 15 = .ok (.invokestatic 112, 3) := by decide +kernel
theorem dX8_add_18 : decode cX8_add 18 = .ok (.ifCond .ne 6, 3) := by decide +kernel
theorem dX8_add_21 : decode cX8_add 21 = .ok (.bipush (-2), 2) := by decide +kernel
theorem dX8_add_23 : decode cX8_add 23 = .ok (.ireturn, 1) := by decide +kernel
theorem dX8_add_24 : decode cX8_add 24 = .ok (.iload 4, 2) := by decide +kernel
theorem dX8_add_26 : decode cX8_add 26 = .ok (.i2l, 1) := by decide +kernel
theorem dX8_add_27 : decode cX8_add 27 = .ok (.ldc2_w 125, 3) := by decide +kernel
theorem dX8_add_30 : decode cX8_add 30 = .ok (.ldc2_w 127, 3) := by decide +kernel
theorem dX8_add_33 : decode cX8_add 33 = .ok (.invokestatic 7, 3) := by decide +kernel
theorem dX8_add_36 : decode cX8_add 36 = .ok (.ifCond .ne 5, 3) := by decide +kernel
theorem dX8_add_39 : decode cX8_add 39 = .ok (.iconst (-1), 1) := by decide +kernel
theorem dX8_add_40 : decode cX8_add 40 = .ok (.ireturn, 1) := by decide +kernel
theorem dX8_add_41 : decode cX8_add 41 = .ok (.aload_n 0, 1) := by decide +kernel
theorem dX8_add_42 : decode cX8_add 42 = .ok (.aload_n 0, 1) := by decide +kernel
theorem dX8_add_43 : decode cX8_add 43 = .ok (.getfield 21, 3) := by decide +kernel
theorem dX8_add_46 : decode cX8_add 46 = .ok (.bipush 24, 2) := by decide +kernel
theorem dX8_add_48 : decode cX8_add 48 = .ok (.iload_n 2, 1) := by decide +kernel
theorem dX8_add_49 : decode cX8_add 49 = .ok (.imul, 1) := by decide +kernel
theorem dX8_add_50 : decode cX8_add 50 = .ok (.aload_n 0, 1) := by decide +kernel
theorem dX8_add_51 : decode cX8_add 51 = .ok (.getfield 34, 3) := by decide +kernel
theorem dX8_add_54 : decode cX8_add 54 = .ok (.invokevirtual 129, 3) := by decide +kernel
theorem dX8_add_57 : decode cX8_add 57 = .ok (.iconst 0, 1) := by decide +kernel
theorem dX8_add_58 : decode cX8_add 58 = .ok (.istore 5, 2) := by decide +kernel
theorem dX8_add_60 : decode cX8_add 60 = .ok (.iload 5, 2) := by decide +kernel
theorem dX8_add_62 : decode cX8_add 62 = .ok (.aload_n 0, 1) := by decide +kernel
theorem dX8_add_63 : decode cX8_add 63 = .ok (.getfield 17, 3) := by decide +kernel
theorem dX8_add_66 : decode cX8_add 66 = .ok (.if_icmp .ge 35, 3) := by decide +kernel
theorem dX8_add_69 : decode cX8_add 69 = .ok (.aload_n 0, 1) := by decide +kernel
theorem dX8_add_70 : decode cX8_add 70 = .ok (.getfield 34, 3) := by decide +kernel
theorem dX8_add_73 : decode cX8_add 73 = .ok (.iload 5, 2) := by decide +kernel
theorem dX8_add_75 : decode cX8_add 75 = .ok (.dup2, 1) := by decide +kernel
theorem dX8_add_76 : decode cX8_add 76 = .ok (.laload, 1) := by decide +kernel
theorem dX8_add_77 : decode cX8_add 77 = .ok (.iload 4, 2) := by decide +kernel
theorem dX8_add_79 : decode cX8_add 79 = .ok (.i2l, 1) := by decide +kernel
theorem dX8_add_80 : decode cX8_add 80 = .ok (.aload_n 0, 1) := by decide +kernel
theorem dX8_add_81 : decode cX8_add 81 = .ok (.getfield 21, 3) := by decide +kernel
theorem dX8_add_84 : decode cX8_add 84 = .ok (.bipush 24, 2) := by decide +kernel
theorem dX8_add_86 : decode cX8_add 86 = .ok (.iload_n 3, 1) := by decide +kernel
theorem dX8_add_87 : decode cX8_add 87 = .ok (.imul, 1) := by decide +kernel
theorem dX8_add_88 : decode cX8_add 88 = .ok (.iload 5, 2) := by decide +kernel
theorem dX8_add_90 : decode cX8_add 90 = .ok (.iadd, 1) := by decide +kernel
theorem dX8_add_91 : decode cX8_add 91 = .ok (.laload, 1) := by decide +kernel
theorem dX8_add_92 : decode cX8_add 92 = .ok (.lmul, 1) := by decide +kernel
theorem dX8_add_93 : decode cX8_add 93 = .ok (.ladd, 1) := by decide +kernel
theorem dX8_add_94 : decode cX8_add 94 = .ok (.lastore, 1) := by decide +kernel
theorem dX8_add_95 : decode cX8_add 95 = .ok (.iinc 5 1, 3) := by decide +kernel
theorem dX8_add_98 : decode cX8_add 98 = .ok (.goto (-38), 3) := by decide +kernel
theorem dX8_add_101 : decode cX8_add 101 = .ok (.aload_n 0, 1) := by decide +kernel
theorem dX8_add_102 : decode cX8_add 102 = .ok (.iload_n 1, 1) := by decide +kernel
theorem dX8_add_103 : decode cX8_add 103 = .ok (.invokevirtual 133, 3) := by decide +kernel
theorem dX8_add_106 : decode cX8_add 106 = .ok (.ireturn, 1) := by decide +kernel
theorem dX8_multiply_0 : decode cX8_multiply 0 = .ok (.iload_n 1, 1) := by decide +kernel
theorem dX8_multiply_1 : decode cX8_multiply 1 = .ok (.invokestatic 112, 3) := by decide +kernel
theorem dX8_multiply_4 : decode cX8_multiply 4 = .ok (.ifCond .eq 17, 3) := by decide +kernel
theorem dX8_multiply_7 : decode cX8_multiply 7 = .ok (.iload_n 2, 1) := by decide +kernel
theorem dX8_multiply_8 : decode cX8_multiply 8 = .ok (.invokestatic 112, 3) := by decide +kernel
theorem dX8_multiply_11 : decode cX8_multiply 11 = .ok (.ifCond .eq 10, 3) := by decide +kernel
theorem dX8_multiply_14 : decode cX8_multiply 14 = .ok (.iload_n 3, 1) := by decide +kernel
theorem dX8_multiply_15 : decode cX8_multiply 15 = .ok (.invokestatic 112, 3) := by decide +kernel
theorem dX8_multiply_18 : decode cX8_multiply 18 = .ok (.ifCond .ne 6, 3) := by decide +kernel
theorem dX8_multiply_21 : decode cX8_multiply 21 = .ok (.bipush (-2), 2) := by decide +kernel
theorem dX8_multiply_23 : decode cX8_multiply 23 = .ok (.ireturn, 1) := by decide +kernel
theorem dX8_multiply_24 : decode cX8_multiply 24 = .ok (.aload_n 0, 1) := by decide +kernel
theorem dX8_multiply_25 : decode cX8_multiply 25 = .ok (.aload_n 0, 1) := by decide +kernel
theorem dX8_multiply_26 : decode cX8_multiply 26 = .ok (.getfield 34, 3) := by decide +kernel
theorem dX8_multiply_29 : decode cX8_multiply 29 = .ok (.invokevirtual 136, 3) := by decide +kernel
theorem dX8_multiply_32 : decode cX8_multiply 32 = .ok (.iconst 0, 1) := by decide +kernel
theorem dX8_multiply_33 : decode cX8_multiply 33 = .ok (.istore 4, 2) := by decide +kernel
theorem dX8_multiply_35 : decode cX8_multiply 35 = .ok (.iload 4, 2) := by decide +kernel
theorem dX8_multiply_37 : decode cX8_multiply 37 = .ok (.aload_n 0, 1) := by decide +kernel
theorem dX8_multiply_38 : decode cX8_multiply 38 = .ok (.getfield 17, 3) := by decide +kernel
theorem dX8_multiply_41 : decode cX8_multiply 41 = .ok (.if_icmp .ge 68, 3) := by decide +kernel
theorem dX8_multiply_44 : decode cX8_multiply 44 = .ok (.iconst 0, 1) := by decide +kernel
theorem dX8_multiply_45 : decode cX8_multiply 45 = .ok (.istore 5, 2) := by decide +kernel
theorem dX8_multiply_47 : decode cX8_multiply 47 = .ok (.iload 4, 2) := by decide +kernel
theorem dX8_multiply_49 : decode cX8_multiply 49 = .ok (.iload 5, 2) := by decide +kernel
theorem dX8_multiply_51 : decode cX8_multiply 51 = .ok (.iadd, 1) := by decide +kernel
theorem dX8_multiply_52 : decode cX8_multiply 52 = .ok (.aload_n 0, 1) := by decide +kernel
theorem dX8_multiply_53 : decode cX8_multiply 53 = .ok (.getfield 17, 3) := by decide +kernel
theorem dX8_multiply_56 : decode cX8_multiply 56 = .ok (.if_icmp .ge 47, 3) := by decide +kernel
theorem dX8_multiply_59 : decode cX8_multiply 59 = .ok (.aload_n 0, 1) := by decide +kernel
theorem dX8_multiply_60 : decode cX8_multiply 60 = .ok (.getfield 34, 3) := by decide +kernel
theorem dX8_multiply_63 : decode cX8_multiply 63 = .ok (.iload 4, 2) := by decide +kernel
theorem dX8_multiply_65 : decode cX8_multiply 65 = .ok (.iload 5, 2) := by decide +kernel
theorem dX8_multiply_67 : decode cX8_multiply 67 = .ok (.iadd, 1) := by decide +kernel
theorem dX8_multiply_68 : decode cX8_multiply 68 = .ok (.dup2, 1) := by decide +kernel
theorem dX8_multiply_69 : decode cX8_multiply 69 = .ok (.laload, 1) := by decide +kernel
theorem dX8_multiply_70 : decode cX8_multiply 70 = .ok (.aload_n 0, 1) := by decide +kernel
theorem dX8_multiply_71 : decode cX8_multiply 71 = .ok (.getfield 21, 3) := by decide +kernel
theorem dX8_multiply_74 : decode cX8_multiply 74 = .ok (.bipush 24, 2) := by decide +kernel
theorem dX8_multiply_76 : decode cX8_multiply 76 = .ok (.iload_n 2, 1) := by decide +kernel
theorem dX8_multiply_77 : decode cX8_multiply 77 = .ok (.imul, 1) := by decide +kernel
theorem dX8_multiply_78 : decode cX8_multiply 78 = .ok (.iload 4, 2) := by decide +kernel
theorem dX8_multiply_80 : decode cX8_multiply 80 = .ok (.iadd, 1) := by decide +kernel
theorem dX8_multiply_81 : decode cX8_multiply 81 = .ok (.laload, 1) := by decide +kernel
theorem dX8_multiply_82 : decode cX8_multiply 82 = .ok (.aload_n 0, 1) := by decide +kernel
theorem dX8_multiply_83 : decode cX8_multiply 83 = .ok (.getfield 21, 3) := by decide +kernel
theorem dX8_multiply_86 : decode cX8_multiply 86 = .ok (.bipush 24, 2) := by decide +kernel
theorem dX8_multiply_88 : decode cX8_multiply 88 = .ok (.iload_n 3, 1) := by decide +kernel
theorem dX8_multiply_89 : decode cX8_multiply 89 = .ok (.imul, 1) := by decide +kernel
theorem dX8_multiply_90 : decode cX8_multiply 90 = .ok (.iload 5, 2) := by decide +kernel
theorem dX8_multiply_92 : decode cX8_multiply 92 = .ok (.iadd, 1) := by decide +kernel
theorem dX8_multiply_93 : decode cX8_multiply 93 = .ok (.laload, 1) := by decide +kernel
theorem dX8_multiply_94 : decode cX8_multiply 94 = .ok (.lmul, 1) := by decide +kernel
theorem dX8_multiply_95 : decode cX8_multiply 95 = .ok (.ladd, 1) := by decide +kernel
theorem dX8_multiply_96 : decode cX8_multiply 96 = .ok (.lastore, 1) := by decide +kernel
theorem dX8_multiply_97 : decode cX8_multiply 97 = .ok (.iinc 5 1, 3) := by decide +kernel
theorem dX8_multiply_100 : decode cX8_multiply 100 = .ok (.goto (-53), 3) := by decide +kernel
theorem dX8_multiply_103 : decode cX8_multiply 103 = .ok (.iinc 4 1, 3) := by decide +kernel
theorem dX8_multiply_106 : decode cX8_multiply 106 = .ok (.goto (-71), 3) := by decide +kernel
theorem dX8_multiply_109 : decode cX8_multiply 109 = .ok (.aload_n 0, 1) := by decide +kernel
theorem dX8_multiply_110 : decode cX8_multiply 110 = .ok (.iload_n 1, 1) := by decide +kernel
theorem dX8_multiply_111 : decode cX8_multiply 111 = .ok (.invokevirtual 133, 3) := by decide +kernel
theorem dX8_multiply_114 : decode cX8_multiply 114 = .ok (.ireturn, 1) := by decide +kernel
theorem dX8_divide_0 : decode cX8_divide 0 = .ok (.iload_n 1, 1) := by decide +kernel
theorem dX8_divide_1 : decode cX8_divide 1 = .ok (.invokestatic 112, 3) := by decide +kernel
theorem dX8_divide_4 : decode cX8_divide 4 = .ok (.ifCond .eq 17, 3) := by decide +kernel
theorem dX8_divide_7 : decode cX8_divide 7 = .ok (.iload_n 2, 1) := by decide +kernel
theorem dX8_divide_8 : decode cX8_divide 8 = .ok (.invokestatic 112, 3) := by decide +kernel
theorem dX8_divide_11 : decode cX8_divide 11 = .ok (.ifCond .eq 10, 3) := by decide +kernel
theorem dX8_divide_14 : decode cX8_divide 14 = .ok (.iload_n 3, 1) := by decide +kernel
theorem dX8_divide_15 : decode cX8_divide 15 = .ok (.invokestatic 112, 3) := by decide +kernel
theorem dX8_divide_18 : decode cX8_divide 18 = .ok (.ifCond .ne 6, 3) := by decide +kernel
theorem dX8_divide_21 : decode cX8_divide 21 = .ok (.bipush (-2), 2) := by decide +kernel
theorem dX8_divide_23 : decode cX8_divide 23 = .ok (.ireturn, 1) := by decide +kernel
theorem dX8_divide_24 : decode cX8_divide 24 = .ok (.aload_n 0, 1) := by decide +kernel
theorem dX8_divide_25 : decode cX8_divide 25 = .ok (.getfield 21, 3) := by decide +kernel
theorem dX8_divide_28 : decode cX8_divide 28 = .ok (.bipush 24, 2) := by decide +kernel
theorem dX8_divide_30 : decode cX8_divide 30 = .ok (.iload_n 3, 1) := by decide +kernel
theorem dX8_divide_31 : decode cX8_divide 31 = .ok (.imul, 1) := by decide +kernel
theorem dX8_divide_32 : decode cX8_divide 32 = .ok (.laload, 1) := by decide +kernel
theorem dX8_divide_33 : decode cX8_divide 33 = .ok (.lstore 4, 2) := by decide +kernel
theorem dX8_divide_35 : decode cX8_divide 35 = .ok (.lload 4, 2) := by decide +kernel
theorem dX8_divide_37 : decode cX8_divide 37 = .ok (.lconst 1, 1) := by decide +kernel
theorem dX8_divide_38 : decode cX8_divide 38 = .ok (.lcmp, 1) := by decide +kernel
theorem dX8_divide_39 : decode cX8_divide 39 = .ok (.ifCond .eq 15, 3) := by decide +kernel
theorem dX8_divide_42 : decode cX8_divide 42 = .ok (.lload 4, 2) := by decide +kernel
theorem dX8_divide_44 : decode cX8_divide 44 = .ok (.ldc2_w 140, 3) := by decide +kernel
theorem dX8_divide_47 : decode cX8_divide 47 = .ok (.lcmp, 1) := by decide +kernel
theorem dX8_divide_48 : decode cX8_divide 48 = .ok (.ifCond .eq 6, 3) := by decide +kernel
theorem dX8_divide_51 : decode cX8_divide 51 = .ok (.bipush (-4), 2) := by decide +kernel
theorem dX8_divide_53 : decode cX8_divide 53 = .ok (.ireturn, 1) := by decide +kernel
theorem dX8_divide_54 : decode cX8_divide 54 = .ok (.aload_n 0, 1) := by decide +kernel
theorem dX8_divide_55 : decode cX8_divide 55 = .ok (.aload_n 0, 1) := by decide +kernel
theorem dX8_divide_56 : decode cX8_divide 56 = .ok (.getfield 34, 3) := by decide +kernel
theorem dX8_divide_59 : decode cX8_divide 59 = .ok (.invokevirtual 136, 3) := by decide +kernel
theorem dX8_divide_62 : decode cX8_divide 62 = .ok (.iconst 0, 1) := by decide +kernel
theorem dX8_divide_63 : decode cX8_divide 63 = .ok (.istore 6, 2) := by decide +kernel
theorem dX8_divide_65 : decode cX8_divide 65 = .ok (.iload 6, 2) := by decide +kernel
theorem dX8_divide_67 : decode cX8_divide 67 = .ok (.aload_n 0, 1) := by decide +kernel
theorem dX8_divide_68 : decode cX8_divide 68 = .ok (.getfield 17, 3) := by decide +kernel
theorem dX8_divide_71 : decode cX8_divide 71 = .ok (.if_icmp .ge 101, 3) := by decide +kernel
theorem dX8_divide_74 : decode cX8_divide 74 = .ok (.aload_n 0, 1) := by decide +kernel
theorem dX8_divide_75 : decode cX8_divide 75 = .ok (.getfield 21, 3) := by decide +kernel
theorem dX8_divide_78 : decode cX8_divide 78 = .ok (.bipush 24, 2) := by decide +kernel
theorem dX8_divide_80 : decode cX8_divide 80 = .ok (.iload_n 2, 1) := by decide +kernel
theorem dX8_divide_81 : decode cX8_divide 81 = .ok (.imul, 1) := by decide +kernel
theorem dX8_divide_82 : decode cX8_divide 82 = .ok (.iload 6, 2) := by decide +kernel
theorem dX8_divide_84 : decode cX8_divide 84 = .ok (.iadd, 1) := by decide +kernel
theorem dX8_divide_85 : decode cX8_divide 85 = .ok (.laload, 1) := by decide +kernel
theorem dX8_divide_86 : decode cX8_divide 86 = .ok (.lstore 7, 2) := by decide +kernel
theorem dX8_divide_88 : decode cX8_divide 88 = .ok (.iconst 0, 1) := by decide +kernel
theorem dX8_divide_89 : decode cX8_divide 89 = .ok (.istore 9, 2) := by decide +kernel
theorem dX8_divide_91 : decode cX8_divide 91 = .ok (.iload 9, 2) := by decide +kernel
theorem dX8_divide_93 : decode cX8_divide 93 = .ok (.iload 6, 2) := by decide +kernel
theorem dX8_divide_95 : decode cX8_divide 95 = .ok (.if_icmp .ge 37, 3) := by decide +kernel
theorem dX8_divide_98 : decode cX8_divide 98 = .ok (.lload 7, 2) := by decide +kernel
theorem dX8_divide_100 : decode cX8_divide 100 = .ok (.aload_n 0, 1) := by decide +kernel
theorem dX8_divide_101 : decode cX8_divide 101 = .ok (.getfield 34, 3) := by decide +kernel
theorem dX8_divide_104 : decode cX8_divide 104 = .ok (.iload 9, 2) := by decide +kernel
theorem dX8_divide_106 : decode cX8_divide 106 = .ok (.laload, 1) := by decide +kernel
theorem dX8_divide_107 : decode cX8_divide 107 = .ok (.aload_n 0, 1) := by decide +kernel
theorem dX8_divide_108 : decode cX8_divide 108 = .ok (.getfield 21, 3) := by decide +kernel
theorem dX8_divide_111 : decode cX8_divide 111 = .ok (.bipush 24, 2) := by decide +kernel
theorem dX8_divide_113 : decode cX8_divide 113 = .ok (.iload_n 3, 1) := by decide +kernel
theorem dX8_divide_114 : decode cX8_divide 114 = .ok (.imul, 1) := by decide +kernel
theorem dX8_divide_115 : decode cX8_divide 115 = .ok (.iload 6, 2) := by decide +kernel
theorem dX8_divide_117 : decode cX8_divide 117 = .ok (.iadd, 1) := by decide +kernel
theorem dX8_divide_118 : decode cX8_divide 118 = .ok (.iload 9, 2) := by decide +kernel
theorem dX8_divide_120 : decode cX8_divide 120 = .ok (.isub, 1) := by decide +kernel
theorem dX8_divide_121 : decode cX8_divide 121 = .ok (.laload, 1) := by decide +kernel
theorem dX8_divide_122 : decode cX8_divide 122 = .ok (.lmul, 1) := by decide +kernel
theorem dX8_divide_123 : decode cX8_divide 123 = .ok (.lsub, 1) := by decide +kernel
theorem dX8_divide_124 : decode cX8_divide 124 = .ok (.lstore 7, 2) := by decide +kernel
theorem dX8_divide_126 : decode cX8_divide 126 = .ok (.iinc 9 1, 3) := by decide +kernel
theorem dX8_divide_129 : decode cX8_divide 129 = .ok (.goto (-38), 3) := by decide +kernel
theorem dX8_divide_132 : decode cX8_divide 132 = .ok (.aload_n 0, 1) := by decide +kernel
theorem dX8_divide_133 : decode cX8_divide 133 = .ok (.getfield 34, 3) := by decide +kernel
theorem dX8_divide_136 : decode cX8_divide 136 = .ok (.iload 6, 2) := by decide +kernel
theorem dX8_divide_138 : decode cX8_divide 138 = .ok (.lload 4, 2) := by decide +kernel
theorem dX8_divide_140 : decode cX8_divide 140 = .ok (.lload 7, 2) := by decide +kernel
theorem dX8_divide_142 : decode cX8_divide 142 = .ok (.lmul, 1) := by decide +kernel
theorem dX8_divide_143 : decode cX8_divide 143 = .ok (.lastore, 1) := by decide +kernel
theorem dX8_divide_144 : decode cX8_divide 144 = .ok (.aload_n 0, 1) := by decide +kernel
theorem dX8_divide_145 : decode cX8_divide 145 = .ok (.getfield 34, 3) := by decide +kernel
theorem dX8_divide_148 : decode cX8_divide 148 = .ok (.iload 6, 2) := by decide +kernel
theorem dX8_divide_150 : decode cX8_divide 150 = .ok (.laload, 1) := by decide +kernel
theorem dX8_divide_151 : decode cX8_divide 151 = .ok (.ldc2_w 93, 3) := by decide +kernel
theorem dX8_divide_154 : decode cX8_divide 154 = .ok (.ldc2_w 95, 3) := by decide +kernel
theorem dX8_divide_157 : decode cX8_divide 157 = .ok (.invokestatic 7, 3) := by decide +kernel
theorem dX8_divide_160 : decode cX8_divide 160 = .ok (.ifCond .ne 6, 3) := by decide +kernel
theorem dX8_divide_163 : decode cX8_divide 163 = .ok (.bipush (-3), 2) := by decide +kernel
theorem dX8_divide_165 : decode cX8_divide 165 = .ok (.ireturn, 1) := by decide +kernel
theorem dX8_divide_166 : decode cX8_divide 166 = .ok (.iinc 6 1, 3) := by decide +kernel
theorem dX8_divide_169 : decode cX8_divide 169 = .ok (.goto (-104), 3) := by decide +kernel
theorem dX8_divide_172 : decode cX8_divide 172 = .ok (.aload_n 0, 1) := by decide +kernel
theorem dX8_divide_173 : decode cX8_divide 173 = .ok (.iload_n 1, 1) := by decide +kernel
theorem dX8_divide_174 : decode cX8_divide 174 = .ok (.invokevirtual 133, 3) := by decide +kernel
theorem dX8_divide_177 : decode cX8_divide 177 = .ok (.ireturn, 1) := by decide +kernel
theorem dX8_shift_0 : decode cX8_shift 0 = .ok (.iload_n 1, 1) := by decide +kernel
theorem dX8_shift_1 : decode cX8_shift 1 = .ok (.invokestatic 112, 3) := by decide +kernel
theorem dX8_shift_4 : decode cX8_shift 4 = .ok (.ifCond .eq 10, 3) := by decide +kernel
theorem dX8_shift_7 : decode cX8_shift 7 = .ok (.iload_n 2, 1) := by decide +kernel
theorem dX8_shift_8 : decode cX8_shift 8 = .ok (.invokestatic 112, 3) := by decide +kernel
theorem dX8_shift_11 : decode cX8_shift 11 = .ok (.ifCond .ne 6, 3) := by decide +kernel
theorem dX8_shift_14 : decode cX8_shift 14 = .ok (.bipush (-2), 2) := by decide +kernel
theorem dX8_shift_16 : decode cX8_shift 16 = .ok (.ireturn, 1) := by decide +kernel
theorem dX8_shift_17 : decode cX8_shift 17 = .ok (.iload_n 3, 1) := by decide +kernel
theorem dX8_shift_18 : decode cX8_shift 18 = .ok (.i2l, 1) := by decide +kernel
theorem dX8_shift_19 : decode cX8_shift 19 = .ok (.lconst 0, 1) := by decide +kernel
theorem dX8_shift_20 : decode cX8_shift 20 = .ok (.ldc2_w 142, 3) := by decide +kernel
theorem dX8_shift_23 : decode cX8_shift 23 = .ok (.invokestatic 7, 3) := by decide +kernel
theorem dX8_shift_26 : decode cX8_shift 26 = .ok (.ifCond .ne 5, 3) := by decide +kernel
theorem dX8_shift_29 : decode cX8_shift 29 = .ok (.iconst (-1), 1) := by decide +kernel
theorem dX8_shift_30 : decode cX8_shift 30 = .ok (.ireturn, 1) := by decide +kernel
theorem dX8_shift_31 : decode cX8_shift 31 = .ok (.aload_n 0, 1) := by decide +kernel
theorem dX8_shift_32 : decode cX8_shift 32 = .ok (.aload_n 0, 1) := by decide +kernel
theorem dX8_shift_33 : decode cX8_shift 33 = .ok (.getfield 21, 3) := by decide +kernel
theorem dX8_shift_36 : decode cX8_shift 36 = .ok (.bipush 24, 2) := by decide +kernel
theorem dX8_shift_38 : decode cX8_shift 38 = .ok (.iload_n 2, 1) := by decide +kernel
theorem dX8_shift_39 : decode cX8_shift 39 = .ok (.imul, 1) := by decide +kernel
theorem dX8_shift_40 : decode cX8_shift 40 = .ok (.aload_n 0, 1) := by decide +kernel
theorem dX8_shift_41 : decode cX8_shift 41 = .ok (.getfield 34, 3) := by decide +kernel
theorem dX8_shift_44 : decode cX8_shift 44 = .ok (.invokevirtual 129, 3) := by decide +kernel
theorem dX8_shift_47 : decode cX8_shift 47 = .ok (.aload_n 0, 1) := by decide +kernel
theorem dX8_shift_48 : decode cX8_shift 48 = .ok (.aload_n 0, 1) := by decide +kernel
theorem dX8_shift_49 : decode cX8_shift 49 = .ok (.getfield 34, 3) := by decide +kernel
theorem dX8_shift_52 : decode cX8_shift 52 = .ok (.iload_n 3, 1) := by decide +kernel
theorem dX8_shift_53 : decode cX8_shift 53 = .ok (.invokevirtual 144, 3) := by decide +kernel
theorem dX8_shift_56 : decode cX8_shift 56 = .ok (.aload_n 0, 1) := by decide +kernel
theorem dX8_shift_57 : decode cX8_shift 57 = .ok (.iload_n 1, 1) := by decide +kernel
theorem dX8_shift_58 : decode cX8_shift 58 = .ok (.invokevirtual 133, 3) := by decide +kernel
theorem dX8_shift_61 : decode cX8_shift 61 = .ok (.ireturn, 1) := by decide +kernel
theorem dX8_substitute_0 : decode cX8_substitute 0 = .ok (.iload_n 1, 1) := by decide +kernel
theorem dX8_substitute_1 : decode cX8_substitute 1 = .ok (.invokestatic 112, 3) := by decide +kernel
theorem dX8_substitute_4 : decode cX8_substitute 4 = .ok (.ifCond .eq 10, 3) := by decide +kernel
theorem dX8_substitute_7 : decode cX8_substitute 7 = .ok (.iload_n 2, 1) := by decide +kernel
theorem dX8_substitute_8 : decode cX8_substitute 8 = .ok (.invokestatic 112, 3) := by decide +kernel
theorem dX8_substitute_11 : decode cX8_substitute 11 = .ok (.ifCond .ne 6, 3) := by decide +kernel
theorem dX8_substitute_14 : decode cX8_substitute 14 = .ok (.bipush (-2), 2) := by decide +kernel
theorem dX8_substitute_16 : decode cX8_substitute 16 = .ok (.ireturn, 1) := by decide +kernel
theorem dX8_substitute_17 : decode cX8_substitute 17 = .ok (.iload_n 3, 1) := by decide +kernel
theorem dX8_substitute_18 : decode cX8_substitute 18 = .ok (.i2l, 1) := by decide +kernel
theorem dX8_substitute_19 : decode cX8_substitute 19 = .ok (.lconst 1, 1) := by decide +kernel
theorem dX8_substitute_20 : decode cX8_substitute 20 = .ok (.ldc2_w 148, 3) := by decide +kernel
theorem dX8_substitute_23 : decode cX8_substitute 23 = .ok (.invokestatic 7, 3) := by decide +kernel
theorem dX8_substitute_26 : decode cX8_substitute 26 = .ok (.ifCond .ne 5, 3) := by decide +kernel
theorem dX8_substitute_29 : decode cX8_substitute 29 = .ok (.iconst (-1), 1) := by decide +kernel
theorem dX8_substitute_30 : decode cX8_substitute 30 = .ok (.ireturn, 1) := by decide +kernel
theorem dX8_substitute_31 : decode cX8_substitute 31 = .ok (.aload_n 0, 1) := by decide +kernel
theorem dX8_substitute_32 : decode cX8_substitute 32 = .ok (.aload_n 0, 1) := by decide +kernel
theorem dX8_substitute_33 : decode cX8_substitute 33 = .ok (.getfield 34, 3) := by decide +kernel
theorem dX8_substitute_36 : decode cX8_substitute 36 = .ok (.invokevirtual 136, 3) := by decide +kernel
theorem dX8_substitute_39 : decode cX8_substitute 39 = .ok (.iconst 0, 1) := by decide +kernel
theorem dX8_substitute_40 : decode cX8_substitute 40 = .ok (.istore 4, 2) := by decide +kernel
theorem dX8_substitute_42 : decode cX8_substitute 42 = .ok (.iload_n 3, 1) := by decide +kernel
theorem dX8_substitute_43 : decode cX8_substitute 43 = .ok (.iload 4, 2) := by decide +kernel
theorem dX8_substitute_45 : decode cX8_substitute 45 = .ok (.imul, 1) := by decide +kernel
theorem dX8_substitute_46 : decode cX8_substitute 46 = .ok (.aload_n 0, 1) := by decide +kernel
theorem dX8_substitute_47 : decode cX8_substitute 47 = .ok (.getfield 17, 3) := by decide +kernel
theorem dX8_substitute_50 : decode cX8_substitute 50 = .ok (.if_icmp .ge 30, 3) := by decide +kernel
theorem dX8_substitute_53 : decode cX8_substitute 53 = .ok (.aload_n 0, 1) := by decide +kernel
theorem dX8_substitute_54 : decode cX8_substitute 54 = .ok (.getfield 34, 3) := by decide +kernel
theorem dX8_substitute_57 : decode cX8_substitute 57 = .ok (.iload_n 3, 1) := by decide +kernel
theorem dX8_substitute_58 : decode cX8_substitute 58 = .ok (.iload 4, 2) := by decide +kernel
theorem dX8_substitute_60 : decode cX8_substitute 60 = .ok (.imul, 1) := by decide +kernel
theorem dX8_substitute_61 : decode cX8_substitute 61 = .ok (.aload_n 0, 1) := by decide +kernel
theorem dX8_substitute_62 : decode cX8_substitute 62 = .ok (.getfield 21, 3) := by decide +kernel
theorem dX8_substitute_65 : decode cX8_substitute 65 = .ok (.bipush 24, 2) := by decide +kernel
theorem dX8_substitute_67 : decode cX8_substitute 67 = .ok (.iload_n 2, 1) := by decide +kernel
theorem dX8_substitute_68 : decode cX8_substitute 68 = .ok (.imul, 1) := by decide +kernel
theorem dX8_substitute_69 : decode cX8_substitute 69 = .ok (.iload 4, 2) := by decide +kernel
theorem dX8_substitute_71 : decode cX8_substitute 71 = .ok (.iadd, 1) := by decide +kernel
theorem dX8_substitute_72 : decode cX8_substitute 72 = .ok (.laload, 1) := by decide +kernel
theorem dX8_substitute_73 : decode cX8_substitute 73 = .ok (.lastore, 1) := by decide +kernel
theorem dX8_substitute_74 : decode cX8_substitute 74 = .ok (.iinc 4 1, 3) := by decide +kernel
theorem dX8_substitute_77 : decode cX8_substitute 77 = .ok (.goto (-35), 3) := by decide +kernel
theorem dX8_substitute_80 : decode cX8_substitute 80 = .ok (.aload_n 0, 1) := by decide +kernel
theorem dX8_substitute_81 : decode cX8_substitute 81 = .ok (.iload_n 1, 1) := by decide +kernel
theorem dX8_substitute_82 : decode cX8_substitute 82 = .ok (.invokevirtual 133, 3) := by decide +kernel
theorem dX8_substitute_85 : decode cX8_substitute 85 = .ok (.ireturn, 1) := by decide +kernel
theorem dX8_isResidueSet_0 : decode cX8_isResidueSet 0 = .ok (.iload_n 0, 1) := by decide +kernel
theorem dX8_isResidueSet_1 : decode cX8_isResidueSet 1 = .ok (.i2l, 1) := by decide +kernel
theorem dX8_isResidueSet_2 : decode cX8_isResidueSet 2 = .ok (.lconst 1, 1) := by decide +kernel
theorem dX8_isResidueSet_3 : decode cX8_isResidueSet 3 = .ok (.ldc2_w 150, 3) := by decide +kernel
theorem dX8_isResidueSet_6 : decode cX8_isResidueSet 6 = .ok (.invokestatic 7, 3) := by decide +kernel
theorem dX8_isResidueSet_9 : decode cX8_isResidueSet 9 = .ok (.ifCond .eq 22, 3) := by decide +kernel
theorem dX8_isResidueSet_12 : decode cX8_isResidueSet 12 = .ok (.iload_n 1, 1) := by decide +kernel
theorem dX8_isResidueSet_13 : decode cX8_isResidueSet 13 = .ok (.i2l, 1) := by decide +kernel
theorem dX8_isResidueSet_14 : decode cX8_isResidueSet 14 = .ok (.lconst 0, 1) := by decide +kernel
theorem dX8_isResidueSet_15 : decode cX8_isResidueSet 15 = .ok (.iconst 1, 1) := by decide +kernel
theorem dX8_isResidueSet_16 : decode cX8_isResidueSet 16 = .ok (.iload_n 0, 1) := by decide +kernel
theorem dX8_isResidueSet_17 : decode cX8_isResidueSet 17 = .ok (.ishl, 1) := by decide +kernel
theorem dX8_isResidueSet_18 : decode cX8_isResidueSet 18 = .ok (.iconst 1, 1) := by decide +kernel
theorem dX8_isResidueSet_19 : decode cX8_isResidueSet 19 = .ok (.isub, 1) := by decide +kernel
theorem dX8_isResidueSet_20 : decode cX8_isResidueSet 20 = .ok (.i2l, 1) := by decide +kernel
theorem dX8_isResidueSet_21 : decode cX8_isResidueSet 21 = .ok (.invokestatic 7, 3) := by decide +kernel
theorem dX8_isResidueSet_24 : decode cX8_isResidueSet 24 = .ok (.ifCond .eq 7, 3) := by decide +kernel
theorem dX8_isResidueSet_27 : decode cX8_isResidueSet 27 = .ok (.iconst 1, 1) := by decide +kernel
theorem dX8_isResidueSet_28 : decode cX8_isResidueSet 28 = .ok (.goto 4, 3) := by decide +kernel
theorem dX8_isResidueSet_31 : decode cX8_isResidueSet 31 = .ok (.iconst 0, 1) := by decide +kernel
theorem dX8_isResidueSet_32 : decode cX8_isResidueSet 32 = .ok (.ireturn, 1) := by decide +kernel
theorem dX8_product_0 : decode cX8_product 0 = .ok (.iload_n 1, 1) := by decide +kernel
theorem dX8_product_1 : decode cX8_product 1 = .ok (.invokestatic 112, 3) := by decide +kernel
theorem dX8_product_4 : decode cX8_product 4 = .ok (.ifCond .ne 6, 3) := by decide +kernel
theorem dX8_product_7 : decode cX8_product 7 = .ok (.bipush (-2), 2) := by decide +kernel
theorem dX8_product_9 : decode cX8_product 9 = .ok (.ireturn, 1) := by decide +kernel
theorem dX8_product_10 : decode cX8_product 10 = .ok (.iload_n 2, 1) := by decide +kernel
theorem dX8_product_11 : decode cX8_product 11 = .ok (.iload_n 3, 1) := by decide +kernel
theorem dX8_product_12 : decode cX8_product 12 = .ok (.invokestatic 152, 3) := by decide +kernel
theorem dX8_product_15 : decode cX8_product 15 = .ok (.ifCond .eq 18, 3) := by decide +kernel
theorem dX8_product_18 : decode cX8_product 18 = .ok (.iload 4, 2) := by decide +kernel
theorem dX8_product_20 : decode cX8_product 20 = .ok (.i2l, 1) := by decide +kernel
theorem dX8_product_21 : decode cX8_product 21 = .ok (.ldc2_w 156, 3) := by decide +kernel
theorem dX8_product_24 : decode cX8_product 24 = .ok (.ldc2_w 158, 3) := by decide +kernel
theorem dX8_product_27 : decode cX8_product 27 = .ok (.invokestatic 7, 3) := by decide +kernel
theorem dX8_product_30 : decode cX8_product 30 = .ok (.ifCond .ne 5, 3) := by decide +kernel
theorem dX8_product_33 : decode cX8_product 33 = .ok (.iconst (-1), 1) := by decide +kernel
theorem dX8_product_34 : decode cX8_product 34 = .ok (.ireturn, 1) := by decide +kernel
theorem dX8_product_35 : decode cX8_product 35 = .ok (.aload_n 0, 1) := by decide +kernel
theorem dX8_product_36 : decode cX8_product 36 = .ok (.aload_n 0, 1) := by decide +kernel
theorem dX8_product_37 : decode cX8_product 37 = .ok (.getfield 34, 3) := by decide +kernel
theorem dX8_product_40 : decode cX8_product 40 = .ok (.invokevirtual 160, 3) := by decide +kernel
theorem dX8_product_43 : decode cX8_product 43 = .ok (.iconst 1, 1) := by decide +kernel
theorem dX8_product_44 : decode cX8_product 44 = .ok (.istore 5, 2) := by decide +kernel
theorem dX8_product_46 : decode cX8_product 46 = .ok (.iload 5, 2) := by decide +kernel
theorem dX8_product_48 : decode cX8_product 48 = .ok (.aload_n 0, 1) := by decide +kernel
theorem dX8_product_49 : decode cX8_product 49 = .ok (.getfield 17, 3) := by decide +kernel
theorem dX8_product_52 : decode cX8_product 52 = .ok (.if_icmp .ge 62, 3) := by decide +kernel
theorem dX8_product_55 : decode cX8_product 55 = .ok (.iload_n 3, 1) := by decide +kernel
theorem dX8_product_56 : decode cX8_product 56 = .ok (.iload 5, 2) := by decide +kernel
theorem dX8_product_58 : decode cX8_product 58 = .ok (.iload_n 2, 1) := by decide +kernel
theorem dX8_product_59 : decode cX8_product 59 = .ok (.irem, 1) := by decide +kernel
theorem dX8_product_60 : decode cX8_product 60 = .ok (.ishr, 1) := by decide +kernel
theorem dX8_product_61 : decode cX8_product 61 = .ok (.iconst 1, 1) := by decide +kernel
theorem dX8_product_62 : decode cX8_product 62 = .ok (.iand, 1) := by decide +kernel
theorem dX8_product_63 : decode cX8_product 63 = .ok (.ifCond .ne 6, 3) := by decide +kernel
theorem dX8_product_66 : decode cX8_product 66 = .ok (.goto 42, 3) := by decide +kernel
theorem dX8_product_69 : decode cX8_product 69 = .ok (.iconst 0, 1) := by decide +kernel
theorem dX8_product_70 : decode cX8_product 70 = .ok (.istore 6, 2) := by decide +kernel
theorem dX8_product_72 : decode cX8_product 72 = .ok (.iload 6, 2) := by decide +kernel
theorem dX8_product_74 : decode cX8_product 74 = .ok (.iload 4, 2) := by decide +kernel
theorem dX8_product_76 : decode cX8_product 76 = .ok (.ifCond .ge 9, 3) := by decide +kernel
theorem dX8_product_79 : decode cX8_product 79 = .ok (.iload 4, 2) := by decide +kernel
theorem dX8_product_81 : decode cX8_product 81 = .ok (.ineg, 1) := by decide +kernel
theorem dX8_product_82 : decode cX8_product 82 = .ok (.goto 5, 3) := by decide +kernel
theorem dX8_product_85 : decode cX8_product 85 = .ok (.iload 4, 2) := by decide +kernel
theorem dX8_product_87 : decode cX8_product 87 = .ok (.if_icmp .ge 21, 3) := by decide +kernel
theorem dX8_product_90 : decode cX8_product 90 = .ok (.aload_n 0, 1) := by decide +kernel
theorem dX8_product_91 : decode cX8_product 91 = .ok (.aload_n 0, 1) := by decide +kernel
theorem dX8_product_92 : decode cX8_product 92 = .ok (.getfield 34, 3) := by decide +kernel
theorem dX8_product_95 : decode cX8_product 95 = .ok (.iload 5, 2) := by decide +kernel
theorem dX8_product_97 : decode cX8_product 97 = .ok (.iload 4, 2) := by decide +kernel
theorem dX8_product_99 : decode cX8_product 99 = .ok (.invokevirtual 89, 3) := by decide +kernel
theorem dX8_product_102 : decode cX8_product 102 = .ok (.iinc 6 1, 3) := by decide +kernel
theorem dX8_product_105 : decode cX8_product 105 = .ok (.goto (-33), 3) := by decide +kernel
theorem dX8_product_108 : decode cX8_product 108 = .ok (.iinc 5 1, 3) := by decide +kernel
theorem dX8_product_111 : decode cX8_product 111 = .ok (.goto (-65), 3) := by decide +kernel
theorem dX8_product_114 : decode cX8_product 114 = .ok (.aload_n 0, 1) := by decide +kernel
theorem dX8_product_115 : decode cX8_product 115 = .ok (.iload_n 1, 1) := by decide +kernel
theorem dX8_product_116 : decode cX8_product 116 = .ok (.invokevirtual 133, 3) := by decide +kernel
theorem dX8_product_119 : decode cX8_product 119 = .ok (.ireturn, 1) := by decide +kernel
theorem dX8_firstDifference_0 : decode cX8_firstDifference 0 = .ok (.iload_n 1, 1) := by decide +kernel
theorem dX8_firstDifference_1 : decode cX8_firstDifference 1 = .ok (.invokestatic 112, 3) := by decide +kernel
theorem dX8_firstDifference_4 : decode cX8_firstDifference 4 = .ok (.ifCond .eq 10, 3) := by decide +kernel
theorem dX8_firstDifference_7 : decode cX8_firstDifference 7 = .ok (.iload_n 2, 1) := by decide +kernel
theorem dX8_firstDifference_8 : decode cX8_firstDifference 8 = .ok (.invokestatic 112, 3) := by decide +kernel
theorem dX8_firstDifference_11 : decode cX8_firstDifference 11 = .ok (.ifCond .ne 6, 3) := by decide +kernel
theorem dX8_firstDifference_14 : decode cX8_firstDifference 14 = .ok (.bipush (-2), 2) := by decide +kernel
theorem dX8_firstDifference_16 : decode cX8_firstDifference 16 = .ok (.ireturn, 1) := by decide +kernel
theorem dX8_firstDifference_17 : decode cX8_firstDifference 17 = .ok (.iconst 0, 1) := by decide +kernel
theorem dX8_firstDifference_18 : decode cX8_firstDifference 18 = .ok (.istore_n 3, 1) := by decide +kernel
theorem dX8_firstDifference_19 : decode cX8_firstDifference 19 = .ok (.iload_n 3, 1) := by decide +kernel
theorem dX8_firstDifference_20 : decode cX8_firstDifference 20 = .ok (.aload_n 0, 1) := by decide +kernel
theorem dX8_firstDifference_21 : decode cX8_firstDifference 21 = .ok (.getfield 17, 3) := by decide +kernel
theorem dX8_firstDifference_24 : decode cX8_firstDifference 24 = .ok (.if_icmp .ge 37, 3) := by decide +kernel
theorem dX8_firstDifference_27 : decode cX8_firstDifference 27 = .ok (.aload_n 0, 1) := by decide +kernel
theorem dX8_firstDifference_28 : decode cX8_firstDifference 28 = .ok (.getfield 21, 3) := by decide +kernel
theorem dX8_firstDifference_31 : decode cX8_firstDifference 31 = .ok (.bipush 24, 2) := by decide +kernel
theorem dX8_firstDifference_33 : decode cX8_firstDifference 33 = .ok (.iload_n 1, 1) := by decide +kernel
theorem dX8_firstDifference_34 : decode cX8_firstDifference 34 = .ok (.imul, 1) := by decide +kernel
theorem dX8_firstDifference_35 : decode cX8_firstDifference 35 = .ok (.iload_n 3, 1) := by decide +kernel
theorem dX8_firstDifference_36 : decode cX8_firstDifference 36 = .ok (.iadd, 1) := by decide +kernel
theorem dX8_firstDifference_37 : decode cX8_firstDifference 37 = .ok (.laload, 1) := by decide +kernel
theorem dX8_firstDifference_38 : decode cX8_firstDifference 38 = .ok (.aload_n 0, 1) := by decide +kernel
theorem dX8_firstDifference_39 : decode cX8_firstDifference 39 = .ok (.getfield 21, 3) := by decide +kernel
theorem dX8_firstDifference_42 : decode cX8_firstDifference 42 = .ok (.bipush 24, 2) := by decide +kernel
theorem dX8_firstDifference_44 : decode cX8_firstDifference 44 = .ok (.iload_n 2, 1) := by decide +kernel
theorem dX8_firstDifference_45 : decode cX8_firstDifference 45 = .ok (.imul, 1) := by decide +kernel
theorem dX8_firstDifference_46 : decode cX8_firstDifference 46 = .ok (.iload_n 3, 1) := by decide +kernel
theorem dX8_firstDifference_47 : decode cX8_firstDifference 47 = .ok (.iadd, 1) := by decide +kernel
theorem dX8_firstDifference_48 : decode cX8_firstDifference 48 = .ok (.laload, 1) := by decide +kernel
theorem dX8_firstDifference_49 : decode cX8_firstDifference 49 = .ok (.lcmp, 1) := by decide +kernel
theorem dX8_firstDifference_50 : decode cX8_firstDifference 50 = .ok (.ifCond .eq 5, 3) := by decide +kernel
theorem dX8_firstDifference_53 : decode cX8_firstDifference 53 = .ok (.iload_n 3, 1) := by decide +kernel
theorem dX8_firstDifference_54 : decode cX8_firstDifference 54 = .ok (.ireturn, 1) := by decide +kernel
theorem dX8_firstDifference_55 : decode cX8_firstDifference 55 = .ok (.iinc 3 1, 3) := by decide +kernel
theorem dX8_firstDifference_58 : decode cX8_firstDifference 58 = .ok (.goto (-39), 3) := by decide +kernel
theorem dX8_firstDifference_61 : decode cX8_firstDifference 61 = .ok (.bipush (-7), 2) := by decide +kernel
theorem dX8_firstDifference_63 : decode cX8_firstDifference 63 = .ok (.ireturn, 1) := by decide +kernel
theorem dX8_remainder_0 : decode cX8_remainder 0 = .ok (.lload_n 0, 1) := by decide +kernel
theorem dX8_remainder_1 : decode cX8_remainder 1 = .ok (.ldc2_w 163, 3) := by decide +kernel
theorem dX8_remainder_4 : decode cX8_remainder 4 = .ok (.lrem, 1) := by decide +kernel
theorem dX8_remainder_5 : decode cX8_remainder 5 = .ok (.lstore_n 2, 1) := by decide +kernel
theorem dX8_remainder_6 : decode cX8_remainder 6 = .ok (.lload_n 2, 1) := by decide +kernel
theorem dX8_remainder_7 : decode cX8_remainder 7 = .ok (.lconst 0, 1) := by decide +kernel
theorem dX8_remainder_8 : decode cX8_remainder 8 = .ok (.lcmp, 1) := by decide +kernel
theorem dX8_remainder_9 : decode cX8_remainder 9 = .ok (.ifCond .ge 11, 3) := by decide +kernel
theorem dX8_remainder_12 : decode cX8_remainder 12 = .ok (.lload_n 2, 1) := by decide +kernel
theorem dX8_remainder_13 : decode cX8_remainder 13 = .ok (.ldc2_w 163, 3) := by decide +kernel
theorem dX8_remainder_16 : decode cX8_remainder 16 = .ok (.ladd, 1) := by decide +kernel
theorem dX8_remainder_17 : decode cX8_remainder 17 = .ok (.goto 4, 3) := by decide +kernel
theorem dX8_remainder_20 : decode cX8_remainder 20 = .ok (.lload_n 2, 1) := by decide +kernel
theorem dX8_remainder_21 : decode cX8_remainder 21 = .ok (.lreturn, 1) := by decide +kernel
theorem dX8_valueAt_0 : decode cX8_valueAt 0 = .ok (.iload_n 1, 1) := by decide +kernel
theorem dX8_valueAt_1 : decode cX8_valueAt 1 = .ok (.invokestatic 112, 3) := by decide +kernel
theorem dX8_valueAt_4 : decode cX8_valueAt 4 = .ok (.ifCond .ne 6, 3) := by decide +kernel
theorem dX8_valueAt_7 : decode cX8_valueAt 7 = .ok (.bipush (-2), 2) := by decide +kernel
theorem dX8_valueAt_9 : decode cX8_valueAt 9 = .ok (.ireturn, 1) := by decide +kernel
theorem dX8_valueAt_10 : decode cX8_valueAt 10 = .ok (.lconst 0, 1) := by decide +kernel
theorem dX8_valueAt_11 : decode cX8_valueAt 11 = .ok (.lstore_n 3, 1) := by decide +kernel
theorem dX8_valueAt_12 : decode cX8_valueAt 12 = .ok (.aload_n 0, 1) := by decide +kernel
theorem dX8_valueAt_13 : decode cX8_valueAt 13 = .ok (.getfield 17, 3) := by decide +kernel
theorem dX8_valueAt_16 : decode cX8_valueAt 16 = .ok (.iconst 1, 1) := by decide +kernel
theorem dX8_valueAt_17 : decode cX8_valueAt 17 = .ok (.isub, 1) := by decide +kernel
theorem dX8_valueAt_18 : decode cX8_valueAt 18 = .ok (.istore 5, 2) := by decide +kernel
theorem dX8_valueAt_20 : decode cX8_valueAt 20 = .ok (.iload 5, 2) := by decide +kernel
theorem dX8_valueAt_22 : decode cX8_valueAt 22 = .ok (.ifCond .lt 33, 3) := by decide +kernel
theorem dX8_valueAt_25 : decode cX8_valueAt 25 = .ok (.lload_n 3, 1) := by decide +kernel
theorem dX8_valueAt_26 : decode cX8_valueAt 26 = .ok (.iload_n 2, 1) := by decide +kernel
theorem dX8_valueAt_27 : decode cX8_valueAt 27 = .ok (.i2l, 1) := by decide +kernel
theorem dX8_valueAt_28 : decode cX8_valueAt 28 = .ok (.invokestatic 165, 3) := by decide +kernel
theorem dX8_valueAt_31 : decode cX8_valueAt 31 = .ok (.lmul, 1) := by decide +kernel
theorem dX8_valueAt_32 : decode cX8_valueAt 32 = .ok (.aload_n 0, 1) := by decide +kernel
theorem dX8_valueAt_33 : decode cX8_valueAt 33 = .ok (.getfield 21, 3) := by decide +kernel
theorem dX8_valueAt_36 : decode cX8_valueAt 36 = .ok (.bipush 24, 2) := by decide +kernel
theorem dX8_valueAt_38 : decode cX8_valueAt 38 = .ok (.iload_n 1, 1) := by decide +kernel
theorem dX8_valueAt_39 : decode cX8_valueAt 39 = .ok (.imul, 1) := by decide +kernel
theorem dX8_valueAt_40 : decode cX8_valueAt 40 = .ok (.iload 5, 2) := by decide +kernel
theorem dX8_valueAt_42 : decode cX8_valueAt 42 = .ok (.iadd, 1) := by decide +kernel
theorem dX8_valueAt_43 : decode cX8_valueAt 43 = .ok (.laload, 1) := by decide +kernel
theorem dX8_valueAt_44 : decode cX8_valueAt 44 = .ok (.ladd, 1) := by decide +kernel
theorem dX8_valueAt_45 : decode cX8_valueAt 45 = .ok (.invokestatic 165, 3) := by decide +kernel
theorem dX8_valueAt_48 : decode cX8_valueAt 48 = .ok (.lstore_n 3, 1) := by decide +kernel
theorem dX8_valueAt_49 : decode cX8_valueAt 49 = .ok (.iinc 5 (-1), 3) := by decide +kernel
theorem dX8_valueAt_52 : decode cX8_valueAt 52 = .ok (.goto (-32), 3) := by decide +kernel
theorem dX8_valueAt_55 : decode cX8_valueAt 55 = .ok (.lload_n 3, 1) := by decide +kernel
theorem dX8_valueAt_56 : decode cX8_valueAt 56 = .ok (.l2i, 1) := by decide +kernel
theorem dX8_valueAt_57 : decode cX8_valueAt 57 = .ok (.ireturn, 1) := by decide +kernel
theorem dX8_absolute_0 : decode cX8_absolute 0 = .ok (.lload_n 0, 1) := by decide +kernel
theorem dX8_absolute_1 : decode cX8_absolute 1 = .ok (.lconst 0, 1) := by decide +kernel
theorem dX8_absolute_2 : decode cX8_absolute 2 = .ok (.lcmp, 1) := by decide +kernel
theorem dX8_absolute_3 : decode cX8_absolute 3 = .ok (.ifCond .ge 8, 3) := by decide +kernel
theorem dX8_absolute_6 : decode cX8_absolute 6 = .ok (.lload_n 0, 1) := by decide +kernel
theorem dX8_absolute_7 : decode cX8_absolute 7 = .ok (.lneg, 1) := by decide +kernel
theorem dX8_absolute_8 : decode cX8_absolute 8 = .ok (.goto 4, 3) := by decide +kernel
theorem dX8_absolute_11 : decode cX8_absolute 11 = .ok (.lload_n 0, 1) := by decide +kernel
theorem dX8_absolute_12 : decode cX8_absolute 12 = .ok (.lreturn, 1) := by decide +kernel
theorem dX8_statistic_0 : decode cX8_statistic 0 = .ok (.iload_n 1, 1) := by decide +kernel
theorem dX8_statistic_1 : decode cX8_statistic 1 = .ok (.invokestatic 112, 3) := by decide +kernel
theorem dX8_statistic_4 : decode cX8_statistic 4 = .ok (.ifCond .ne 6, 3) := by decide +kernel
theorem dX8_statistic_7 : decode cX8_statistic 7 = .ok (.bipush (-2), 2) := by decide +kernel
theorem dX8_statistic_9 : decode cX8_statistic 9 = .ok (.ireturn, 1) := by decide +kernel
theorem dX8_statistic_10 : decode cX8_statistic 10 = .ok (.iload_n 2, 1) := by decide +kernel
theorem dX8_statistic_11 : decode cX8_statistic 11 = .ok (.i2l, 1) := by decide +kernel
theorem dX8_statistic_12 : decode cX8_statistic 12 = .ok (.lconst 0, 1) := by decide +kernel
theorem dX8_statistic_13 : decode cX8_statistic 13 = .ok (.ldc2_w 105, 3) := by decide +kernel
theorem dX8_statistic_16 : decode cX8_statistic 16 = .ok (.invokestatic 7, 3) := by decide +kernel
theorem dX8_statistic_19 : decode cX8_statistic 19 = .ok (.ifCond .ne 5, 3) := by decide +kernel
theorem dX8_statistic_22 : decode cX8_statistic 22 = .ok (.iconst (-1), 1) := by decide +kernel
theorem dX8_statistic_23 : decode cX8_statistic 23 = .ok (.ireturn, 1) := by decide +kernel
theorem dX8_statistic_24 : decode cX8_statistic 24 = .ok (.lconst 0, 1) := by decide +kernel
theorem dX8_statistic_25 : decode cX8_statistic 25 = .ok (.lstore_n 3, 1) := by decide +kernel
theorem dX8_statistic_26 : decode cX8_statistic 26 = .ok (.lconst 0, 1) := by decide +kernel
theorem dX8_statistic_27 : decode cX8_statistic 27 = .ok (.lstore 5, 2) := by decide +kernel
theorem dX8_statistic_29 : decode cX8_statistic 29 = .ok (.ldc2_w 116, 3) := by decide +kernel
theorem dX8_statistic_32 : decode cX8_statistic 32 = .ok (.lstore 7, 2) := by decide +kernel
theorem dX8_statistic_34 : decode cX8_statistic 34 = .ok (.iconst 0, 1) := by decide +kernel
theorem dX8_statistic_35 : decode cX8_statistic 35 = .ok (.istore 9, 2) := by decide +kernel
theorem dX8_statistic_37 : decode cX8_statistic 37 = .ok (.iload 9, 2) := by decide +kernel
theorem dX8_statistic_39 : decode cX8_statistic 39 = .ok (.aload_n 0, 1) := by decide +kernel
theorem dX8_statistic_40 : decode cX8_statistic 40 = .ok (.getfield 17, 3) := by decide +kernel
theorem dX8_statistic_43 : decode cX8_statistic 43 = .ok (.if_icmp .ge 177, 3) := by decide +kernel
theorem dX8_statistic_46 : decode cX8_statistic 46 = .ok (.aload_n 0, 1) := by decide +kernel
theorem dX8_statistic_47 : decode cX8_statistic 47 = .ok (.getfield 21, 3) := by decide +kernel
theorem dX8_statistic_50 : decode cX8_statistic 50 = .ok (.bipush 24, 2) := by decide +kernel
theorem dX8_statistic_52 : decode cX8_statistic 52 = .ok (.iload_n 1, 1) := by decide +kernel
theorem dX8_statistic_53 : decode cX8_statistic 53 = .ok (.imul, 1) := by decide +kernel
theorem dX8_statistic_54 : decode cX8_statistic 54 = .ok (.iload 9, 2) := by decide +kernel
theorem dX8_statistic_56 : decode cX8_statistic 56 = .ok (.iadd, 1) := by decide +kernel
theorem dX8_statistic_57 : decode cX8_statistic 57 = .ok (.laload, 1) := by decide +kernel
theorem dX8_statistic_58 : decode cX8_statistic 58 = .ok (.lstore 10, 2) := by decide +kernel
theorem dX8_statistic_60 : decode cX8_statistic 60 = .ok (.lload 10, 2) := by decide +kernel
theorem dX8_statistic_62 : decode cX8_statistic 62 = .ok (.lconst 0, 1) := by decide +kernel
theorem dX8_statistic_63 : decode cX8_statistic 63 = .ok (.lcmp, 1) := by decide +kernel
theorem dX8_statistic_64 : decode cX8_statistic 64 = .ok (.ifCond .ge 10, 3) := by decide +kernel
theorem dX8_statistic_67 : decode cX8_statistic 67 = .ok (.lload 5, 2) := by decide +kernel
theorem dX8_statistic_69 : decode cX8_statistic 69 = .ok (.lconst 0, 1) := by decide +kernel
theorem dX8_statistic_70 : decode cX8_statistic 70 = .ok (.lcmp, 1) := by decide +kernel
theorem dX8_statistic_71 : decode cX8_statistic 71 = .ok (.ifCond .gt 17, 3) := by decide +kernel
theorem dX8_statistic_74 : decode cX8_statistic 74 = .ok (.lload 10, 2) := by decide +kernel
theorem dX8_statistic_76 : decode cX8_statistic 76 = .ok (.lconst 0, 1) := by decide +kernel
theorem dX8_statistic_77 : decode cX8_statistic 77 = .ok (.lcmp, 1) := by decide +kernel
theorem dX8_statistic_78 : decode cX8_statistic 78 = .ok (.ifCond .le 14, 3) := by decide +kernel
theorem dX8_statistic_81 : decode cX8_statistic 81 = .ok (.lload 5, 2) := by decide +kernel
theorem dX8_statistic_83 : decode cX8_statistic 83 = .ok (.lconst 0, 1) := by decide +kernel
theorem dX8_statistic_84 : decode cX8_statistic 84 = .ok (.lcmp, 1) := by decide +kernel
theorem dX8_statistic_85 : decode cX8_statistic 85 = .ok (.ifCond .ge 7, 3) := by decide +kernel
theorem dX8_statistic_88 : decode cX8_statistic 88 = .ok (.iconst 1, 1) := by decide +kernel
theorem dX8_statistic_89 : decode cX8_statistic 89 = .ok (.goto 4, 3) := by decide +kernel
theorem dX8_statistic_92 : decode cX8_statistic 92 = .ok (.iconst 0, 1) := by decide +kernel
theorem dX8_statistic_93 : decode cX8_statistic 93 = .ok (.istore 12, 2) := by decide +kernel
theorem dX8_statistic_95 : decode cX8_statistic 95 = .ok (.iload_n 2, 1) := by decide +kernel
theorem dX8_statistic_96 : decode cX8_statistic 96 = .ok (.iconst 3, 1) := by decide +kernel
theorem dX8_statistic_97 : decode cX8_statistic 97 = .ok (.if_icmp .ne 26, 3) := by decide +kernel
theorem dX8_statistic_100 : decode cX8_statistic 100 = .ok (.lload 10, 2) := by decide +kernel
theorem dX8_statistic_102 : decode cX8_statistic 102 = .ok (.invokestatic 169, 3) := by decide +kernel
theorem dX8_statistic_105 : decode cX8_statistic 105 = .ok (.lload_n 3, 1) := by decide +kernel
theorem dX8_statistic_106 : decode cX8_statistic 106 = .ok (.lcmp, 1) := by decide +kernel
theorem dX8_statistic_107 : decode cX8_statistic 107 = .ok (.ifCond .le 11, 3) := by decide +kernel
theorem dX8_statistic_110 : decode cX8_statistic 110 = .ok (.lload 10, 2) := by decide +kernel
theorem dX8_statistic_112 : decode cX8_statistic 112 = .ok (.invokestatic 169, 3) := by decide +kernel
theorem dX8_statistic_115 : decode cX8_statistic 115 = .ok (.goto 4, 3) := by decide +kernel
theorem dX8_statistic_118 : decode cX8_statistic 118 = .ok (.lload_n 3, 1) := by decide +kernel
theorem dX8_statistic_119 : decode cX8_statistic 119 = .ok (.lstore_n 3, 1) := by decide +kernel
theorem dX8_statistic_120 : decode cX8_statistic 120 = .ok (.goto 61, 3) := by decide +kernel
theorem dX8_statistic_123 : decode cX8_statistic 123 = .ok (.lload_n 3, 1) := by decide +kernel
theorem dX8_statistic_124 : decode cX8_statistic 124 = .ok (.iload_n 2, 1) := by decide +kernel
theorem dX8_statistic_125 : decode cX8_statistic 125 = .ok (.ifCond .ne 13, 3) := by decide +kernel
theorem dX8_statistic_128 : decode cX8_statistic 128 = .ok (.lload 10, 2) := by decide +kernel
theorem dX8_statistic_130 : decode cX8_statistic 130 = .ok (.lconst 0, 1) := by decide +kernel
theorem dX8_statistic_131 : decode cX8_statistic 131 = .ok (.lcmp, 1) := by decide +kernel
theorem dX8_statistic_132 : decode cX8_statistic 132 = .ok (.ifCond .eq 46, 3) := by decide +kernel
theorem dX8_statistic_135 : decode cX8_statistic 135 = .ok (.goto 39, 3) := by decide +kernel
theorem dX8_statistic_138 : decode cX8_statistic 138 = .ok (.iload_n 2, 1) := by decide +kernel
theorem dX8_statistic_139 : decode cX8_statistic 139 = .ok (.iconst 1, 1) := by decide +kernel
theorem dX8_statistic_140 : decode cX8_statistic 140 = .ok (.if_icmp .ne 13, 3) := by decide +kernel
theorem dX8_statistic_143 : decode cX8_statistic 143 = .ok (.lload 10, 2) := by decide +kernel
theorem dX8_statistic_145 : decode cX8_statistic 145 = .ok (.lconst 0, 1) := by decide +kernel
theorem dX8_statistic_146 : decode cX8_statistic 146 = .ok (.lcmp, 1) := by decide +kernel
theorem dX8_statistic_147 : decode cX8_statistic 147 = .ok (.ifCond .ge 31, 3) := by decide +kernel
theorem dX8_statistic_150 : decode cX8_statistic 150 = .ok (.goto 24, 3) := by decide +kernel
theorem dX8_statistic_153 : decode cX8_statistic 153 = .ok (.iload_n 2, 1) := by decide +kernel
theorem dX8_statistic_154 : decode cX8_statistic 154 = .ok (.iconst 2, 1) := by decide +kernel
theorem dX8_statistic_155 : decode cX8_statistic 155 = .ok (.if_icmp .ne 11, 3) := by decide +kernel
theorem dX8_statistic_158 : decode cX8_statistic 158 = .ok (.iload 12, 2) := by decide +kernel
theorem dX8_statistic_160 : decode cX8_statistic 160 = .ok (.ifCond .eq 18, 3) := by decide +kernel
theorem dX8_statistic_163 : decode cX8_statistic 163 = .ok (.goto 11, 3) := by decide +kernel
theorem dX8_statistic_166 : decode cX8_statistic 166 = .ok (.lload 10, 2) := by decide +kernel
theorem dX8_statistic_168 : decode cX8_statistic 168 = .ok (.lload 7, 2) := by decide +kernel
theorem dX8_statistic_170 : decode cX8_statistic 170 = .ok (.lcmp, 1) := by decide +kernel
theorem dX8_statistic_171 : decode cX8_statistic 171 = .ok (.ifCond .le 7, 3) := by decide +kernel
theorem dX8_statistic_174 : decode cX8_statistic 174 = .ok (.lconst 1, 1) := by decide +kernel
theorem dX8_statistic_175 : decode cX8_statistic 175 = .ok (.goto 4, 3) := by decide +kernel
theorem dX8_statistic_178 : decode cX8_statistic 178 = .ok (.lconst 0, 1) := by decide +kernel
theorem dX8_statistic_179 : decode cX8_statistic 179 = .ok (.ladd, 1) := by decide +kernel
theorem dX8_statistic_180 : decode cX8_statistic 180 = .ok (.lstore_n 3, 1) := by decide +kernel
theorem dX8_statistic_181 : decode cX8_statistic 181 = .ok (.lload 10, 2) := by decide +kernel
theorem dX8_statistic_183 : decode cX8_statistic 183 = .ok (.lconst 0, 1) := by decide +kernel
theorem dX8_statistic_184 : decode cX8_statistic 184 = .ok (.lcmp, 1) := by decide +kernel
theorem dX8_statistic_185 : decode cX8_statistic 185 = .ok (.ifCond .eq 8, 3) := by decide +kernel
theorem dX8_statistic_188 : decode cX8_statistic 188 = .ok (.lload 10, 2) := by decide +kernel
theorem dX8_statistic_190 : decode cX8_statistic 190 = .ok (.goto 5, 3) := by decide +kernel
theorem dX8_statistic_193 : decode cX8_statistic 193 = .ok (.lload 5, 2) := by decide +kernel
theorem dX8_statistic_195 : decode cX8_statistic 195 = .ok (.lstore 5, 2) := by decide +kernel
theorem dX8_statistic_197 : decode cX8_statistic 197 = .ok (.lload 10, 2) := by decide +kernel
theorem dX8_statistic_199 : decode cX8_statistic 199 = .ok (.lload 7, 2) := by decide +kernel
theorem dX8_statistic_201 : decode cX8_statistic 201 = .ok (.lcmp, 1) := by decide +kernel
theorem dX8_statistic_202 : decode cX8_statistic 202 = .ok (.ifCond .le 8, 3) := by decide +kernel
theorem dX8_statistic_205 : decode cX8_statistic 205 = .ok (.lload 10, 2) := by decide +kernel
theorem dX8_statistic_207 : decode cX8_statistic 207 = .ok (.goto 5, 3) := by decide +kernel
theorem dX8_statistic_210 : decode cX8_statistic 210 = .ok (.lload 7, 2) := by decide +kernel
theorem dX8_statistic_212 : decode cX8_statistic 212 = .ok (.lstore 7, 2) := by decide +kernel
theorem dX8_statistic_214 : decode cX8_statistic 214 = .ok (.iinc 9 1, 3) := by decide +kernel
theorem dX8_statistic_217 : decode cX8_statistic 217 = .ok (.goto (-180), 3) := by decide +kernel
theorem dX8_statistic_220 : decode cX8_statistic 220 = .ok (.lload_n 3, 1) := by decide +kernel
theorem dX8_statistic_221 : decode cX8_statistic 221 = .ok (.l2i, 1) := by decide +kernel
theorem dX8_statistic_222 : decode cX8_statistic 222 = .ok (.ireturn, 1) := by decide +kernel
theorem dX8_isRankedBefore_0 : decode cX8_isRankedBefore 0 = .ok (.aload_n 0, 1) := by decide +kernel
theorem dX8_isRankedBefore_1 : decode cX8_isRankedBefore 1 = .ok (.iload_n 1, 1) := by decide +kernel
theorem dX8_isRankedBefore_2 : decode cX8_isRankedBefore 2 = .ok (.invokevirtual 118, 3) := by decide +kernel
theorem dX8_isRankedBefore_5 : decode cX8_isRankedBefore 5 = .ok (.ifCond .ge 8, 3) := by decide +kernel
theorem dX8_isRankedBefore_8 : decode cX8_isRankedBefore 8 = .ok (.bipush 24, 2) := by decide +kernel
theorem dX8_isRankedBefore_10 : decode cX8_isRankedBefore 10 = .ok (.goto 8, 3) := by decide +kernel
theorem dX8_isRankedBefore_13 : decode cX8_isRankedBefore 13 = .ok (.aload_n 0, 1) := by decide +kernel
theorem dX8_isRankedBefore_14 : decode cX8_isRankedBefore 14 = .ok (.iload_n 1, 1) := by decide +kernel
theorem dX8_isRankedBefore_15 : decode cX8_isRankedBefore 15 = .ok (.invokevirtual 118, 3) := by decide +kernel
theorem dX8_isRankedBefore_18 : decode cX8_isRankedBefore 18 = .ok (.istore_n 3, 1) := by decide +kernel
theorem dX8_isRankedBefore_19 : decode cX8_isRankedBefore 19 = .ok (.aload_n 0, 1) := by decide +kernel
theorem dX8_isRankedBefore_20 : decode cX8_isRankedBefore 20 = .ok (.iload_n 2, 1) := by decide +kernel
theorem dX8_isRankedBefore_21 : decode cX8_isRankedBefore 21 = .ok (.invokevirtual 118, 3) := by decide +kernel
theorem dX8_isRankedBefore_24 : decode cX8_isRankedBefore 24 = .ok (.ifCond .ge 8, 3) := by decide +kernel
theorem dX8_isRankedBefore_27 : decode cX8_isRankedBefore 27 = .ok (.bipush 24, 2) := by decide +kernel
theorem dX8_isRankedBefore_29 : decode cX8_isRankedBefore 29 = .ok (.goto 8, 3) := by decide +kernel
theorem dX8_isRankedBefore_32 : decode cX8_isRankedBefore 32 = .ok (.aload_n 0, 1) := by decide +kernel
theorem dX8_isRankedBefore_33 : decode cX8_isRankedBefore 33 = .ok (.iload_n 2, 1) := by decide +kernel
theorem dX8_isRankedBefore_34 : decode cX8_isRankedBefore 34 = .ok (.invokevirtual 118, 3) := by decide +kernel
theorem dX8_isRankedBefore_37 : decode cX8_isRankedBefore 37 = .ok (.istore 4, 2) := by decide +kernel
theorem dX8_isRankedBefore_39 : decode cX8_isRankedBefore 39 = .ok (.iload_n 3, 1) := by decide +kernel
theorem dX8_isRankedBefore_40 : decode cX8_isRankedBefore 40 = .ok (.iload 4, 2) := by decide +kernel
theorem dX8_isRankedBefore_42 : decode cX8_isRankedBefore 42 = .ok (.if_icmp .eq 15, 3) := by decide +kernel
theorem dX8_isRankedBefore_45 : decode cX8_isRankedBefore 45 = .ok (.iload_n 3, 1) := by decide +kernel
theorem dX8_isRankedBefore_46 : decode cX8_isRankedBefore 46 = .ok (.iload 4, 2) := by decide +kernel
theorem dX8_isRankedBefore_48 : decode cX8_isRankedBefore 48 = .ok (.if_icmp .ge 7, 3) := by decide +kernel
theorem dX8_isRankedBefore_51 : decode cX8_isRankedBefore 51 = .ok (.iconst 1, 1) := by decide +kernel
theorem dX8_isRankedBefore_52 : decode cX8_isRankedBefore 52 = .ok (.goto 4, 3) := by decide +kernel
theorem dX8_isRankedBefore_55 : decode cX8_isRankedBefore 55 = .ok (.iconst 0, 1) := by decide +kernel
theorem dX8_isRankedBefore_56 : decode cX8_isRankedBefore 56 = .ok (.ireturn, 1) := by decide +kernel
theorem dX8_isRankedBefore_57 : decode cX8_isRankedBefore 57 = .ok (.aload_n 0, 1) := by decide +kernel
theorem dX8_isRankedBefore_58 : decode cX8_isRankedBefore 58 = .ok (.iload_n 1, 1) := by decide +kernel
theorem dX8_isRankedBefore_59 : decode cX8_isRankedBefore 59 = .ok (.invokevirtual 122, 3) := by decide +kernel
theorem dX8_isRankedBefore_62 : decode cX8_isRankedBefore 62 = .ok (.aload_n 0, 1) := by decide +kernel
theorem dX8_isRankedBefore_63 : decode cX8_isRankedBefore 63 = .ok (.iload_n 2, 1) := by decide +kernel
theorem dX8_isRankedBefore_64 : decode cX8_isRankedBefore 64 = .ok (.invokevirtual 122, 3) := by decide +kernel
theorem dX8_isRankedBefore_67 : decode cX8_isRankedBefore 67 = .ok (.if_icmp .eq 24, 3) := by decide +kernel
theorem dX8_isRankedBefore_70 : decode cX8_isRankedBefore 70 = .ok (.aload_n 0, 1) := by decide +kernel
theorem dX8_isRankedBefore_71 : decode cX8_isRankedBefore 71 = .ok (.iload_n 1, 1) := by decide +kernel
theorem dX8_isRankedBefore_72 : decode cX8_isRankedBefore 72 = .ok (.invokevirtual 122, 3) := by decide +kernel
theorem dX8_isRankedBefore_75 : decode cX8_isRankedBefore 75 = .ok (.aload_n 0, 1) := by decide +kernel
theorem dX8_isRankedBefore_76 : decode cX8_isRankedBefore 76 = .ok (.iload_n 2, 1) := by decide +kernel
theorem dX8_isRankedBefore_77 : decode cX8_isRankedBefore 77 = .ok (.invokevirtual 122, 3) := by decide +kernel
theorem dX8_isRankedBefore_80 : decode cX8_isRankedBefore 80 = .ok (.if_icmp .le 7, 3) := by decide +kernel
theorem dX8_isRankedBefore_83 : decode cX8_isRankedBefore 83 = .ok (.iconst 1, 1) := by decide +kernel
theorem dX8_isRankedBefore_84 : decode cX8_isRankedBefore 84 = .ok (.goto 17, 3) := by decide +kernel
theorem dX8_isRankedBefore_87 : decode cX8_isRankedBefore 87 = .ok (.iconst 0, 1) := by decide +kernel
theorem dX8_isRankedBefore_88 : decode cX8_isRankedBefore 88 = .ok (.goto 13, 3) := by decide +kernel
theorem dX8_isRankedBefore_91 : decode cX8_isRankedBefore 91 = .ok (.iload_n 1, 1) := by decide +kernel
theorem dX8_isRankedBefore_92 : decode cX8_isRankedBefore 92 = .ok (.iload_n 2, 1) := by decide +kernel
theorem dX8_isRankedBefore_93 : decode cX8_isRankedBefore 93 = .ok (.if_icmp .ge 7, 3) := by decide +kernel
theorem dX8_isRankedBefore_96 : decode cX8_isRankedBefore 96 = .ok (.iconst 1, 1) := by decide +kernel
theorem dX8_isRankedBefore_97 : decode cX8_isRankedBefore 97 = .ok (.goto 4, 3) := by decide +kernel
theorem dX8_isRankedBefore_100 : decode cX8_isRankedBefore 100 = .ok (.iconst 0, 1) := by decide +kernel
theorem dX8_isRankedBefore_101 : decode cX8_isRankedBefore 101 = .ok (.ireturn, 1) := by decide +kernel
theorem dX8_registerByRank_0 : decode cX8_registerByRank 0 = .ok (.iload_n 1, 1) := by decide +kernel
theorem dX8_registerByRank_1 : decode cX8_registerByRank 1 = .ok (.i2l, 1) := by decide +kernel
theorem dX8_registerByRank_2 : decode cX8_registerByRank 2 = .ok (.lconst 0, 1) := by decide +kernel
theorem dX8_registerByRank_3 : decode cX8_registerByRank 3 = .ok (.ldc2_w 5, 3) := by decide +kernel
theorem dX8_registerByRank_6 : decode cX8_registerByRank 6 = .ok (.invokestatic 7, 3) := by decide +kernel
theorem dX8_registerByRank_9 : decode cX8_registerByRank 9 = .ok (.ifCond .ne 5, 3) := by decide +kernel
theorem dX8_registerByRank_12 : decode cX8_registerByRank 12 = .ok (.iconst (-1), 1) := by decide +kernel
theorem dX8_registerByRank_13 : decode cX8_registerByRank 13 = .ok (.ireturn, 1) := by decide +kernel
theorem dX8_registerByRank_14 : decode cX8_registerByRank 14 = .ok (.bipush (-7), 2) := by decide +kernel
theorem dX8_registerByRank_16 : decode cX8_registerByRank 16 = .ok (.istore_n 2, 1) := by decide +kernel
theorem dX8_registerByRank_17 : decode cX8_registerByRank 17 = .ok (.iconst 0, 1) := by decide +kernel
theorem dX8_registerByRank_18 : decode cX8_registerByRank 18 = .ok (.istore_n 3, 1) := by decide +kernel
theorem dX8_registerByRank_19 : decode cX8_registerByRank 19 = .ok (.iload_n 3, 1) := by decide +kernel
theorem dX8_registerByRank_20 : decode cX8_registerByRank 20 = .ok (.bipush 6, 2) := by decide +kernel
theorem dX8_registerByRank_22 : decode cX8_registerByRank 22 = .ok (.if_icmp .ge 66, 3) := by decide +kernel
theorem dX8_registerByRank_25 : decode cX8_registerByRank 25 = .ok (.iconst 0, 1) := by decide +kernel
theorem dX8_registerByRank_26 : decode cX8_registerByRank 26 = .ok (.istore 4, 2) := by decide +kernel
theorem dX8_registerByRank_28 : decode cX8_registerByRank 28 = .ok (.iconst 0, 1) := by decide +kernel
theorem dX8_registerByRank_29 : decode cX8_registerByRank 29 = .ok (.istore 5, 2) := by decide +kernel
theorem dX8_registerByRank_31 : decode cX8_registerByRank 31 = .ok (.iload 5, 2) := by decide +kernel
theorem dX8_registerByRank_33 : decode cX8_registerByRank 33 = .ok (.bipush 6, 2) := by decide +kernel
theorem dX8_registerByRank_35 : decode cX8_registerByRank 35 = .ok (.if_icmp .ge 35, 3) := by decide +kernel
theorem dX8_registerByRank_38 : decode cX8_registerByRank 38 = .ok (.iload 4, 2) := by decide +kernel
theorem dX8_registerByRank_40 : decode cX8_registerByRank 40 = .ok (.iload 5, 2) := by decide +kernel
theorem dX8_registerByRank_42 : decode cX8_registerByRank 42 = .ok (.iload_n 3, 1) := by decide +kernel
theorem dX8_registerByRank_43 : decode cX8_registerByRank 43 = .ok (.if_icmp .eq 17, 3) := by decide +kernel
theorem dX8_registerByRank_46 : decode cX8_registerByRank 46 = .ok (.aload_n 0, 1) := by decide +kernel
theorem dX8_registerByRank_47 : decode cX8_registerByRank 47 = .ok (.iload 5, 2) := by decide +kernel
theorem dX8_registerByRank_49 : decode cX8_registerByRank 49 = .ok (.iload_n 3, 1) := by decide +kernel
theorem dX8_registerByRank_50 : decode cX8_registerByRank 50 = .ok (.invokevirtual 172, 3) := by decide +kernel
theorem dX8_registerByRank_53 : decode cX8_registerByRank 53 = .ok (.ifCond .eq 7, 3) := by decide +kernel
theorem dX8_registerByRank_56 : decode cX8_registerByRank 56 = .ok (.iconst 1, 1) := by decide +kernel
theorem dX8_registerByRank_57 : decode cX8_registerByRank 57 = .ok (.goto 4, 3) := by decide +kernel
theorem dX8_registerByRank_60 : decode cX8_registerByRank 60 = .ok (.iconst 0, 1) := by decide +kernel
theorem dX8_registerByRank_61 : decode cX8_registerByRank 61 = .ok (.iadd, 1) := by decide +kernel
theorem dX8_registerByRank_62 : decode cX8_registerByRank 62 = .ok (.istore 4, 2) := by decide +kernel
theorem dX8_registerByRank_64 : decode cX8_registerByRank 64 = .ok (.iinc 5 1, 3) := by decide +kernel
theorem dX8_registerByRank_67 : decode cX8_registerByRank 67 = .ok (.goto (-36), 3) := by decide +kernel
theorem dX8_registerByRank_70 : decode cX8_registerByRank 70 = .ok (.iload 4, 2) := by decide +kernel
theorem dX8_registerByRank_72 : decode cX8_registerByRank 72 = .ok (.iload_n 1, 1) := by decide +kernel
theorem dX8_registerByRank_73 : decode cX8_registerByRank 73 = .ok (.if_icmp .ne 7, 3) := by decide +kernel
theorem dX8_registerByRank_76 : decode cX8_registerByRank 76 = .ok (.iload_n 3, 1) := by decide +kernel
theorem dX8_registerByRank_77 : decode cX8_registerByRank 77 = .ok (.goto 4, 3) := by decide +kernel
theorem dX8_registerByRank_80 : decode cX8_registerByRank 80 = .ok (.iload_n 2, 1) := by decide +kernel
theorem dX8_registerByRank_81 : decode cX8_registerByRank 81 = .ok (.istore_n 2, 1) := by decide +kernel
theorem dX8_registerByRank_82 : decode cX8_registerByRank 82 = .ok (.iinc 3 1, 3) := by decide +kernel
theorem dX8_registerByRank_85 : decode cX8_registerByRank 85 = .ok (.goto (-66), 3) := by decide +kernel
theorem dX8_registerByRank_88 : decode cX8_registerByRank 88 = .ok (.iload_n 2, 1) := by decide +kernel
theorem dX8_registerByRank_89 : decode cX8_registerByRank 89 = .ok (.ireturn, 1) := by decide +kernel
theorem dX8_addTerm_0 : decode cX8_addTerm 0 = .ok (.aload_n 0, 1) := by decide +kernel
theorem dX8_addTerm_1 : decode cX8_addTerm 1 = .ok (.aload_n 1, 1) := by decide +kernel
theorem dX8_addTerm_2 : decode cX8_addTerm 2 = .ok (.bipush 24, 2) := by decide +kernel
theorem dX8_addTerm_4 : decode cX8_addTerm 4 = .ok (.iload_n 3, 1) := by decide +kernel
theorem dX8_addTerm_5 : decode cX8_addTerm 5 = .ok (.imul, 1) := by decide +kernel
theorem dX8_addTerm_6 : decode cX8_addTerm 6 = .ok (.aload_n 0, 1) := by decide +kernel
theorem dX8_addTerm_7 : decode cX8_addTerm 7 = .ok (.getfield 37, 3) := by decide +kernel
theorem dX8_addTerm_10 : decode cX8_addTerm 10 = .ok (.invokevirtual 129, 3) := by decide +kernel
theorem dX8_addTerm_13 : decode cX8_addTerm 13 = .ok (.aload_n 0, 1) := by decide +kernel
theorem dX8_addTerm_14 : decode cX8_addTerm 14 = .ok (.aload_n 0, 1) := by decide +kernel
theorem dX8_addTerm_15 : decode cX8_addTerm 15 = .ok (.getfield 37, 3) := by decide +kernel
theorem dX8_addTerm_18 : decode cX8_addTerm 18 = .ok (.iconst 0, 1) := by decide +kernel
theorem dX8_addTerm_19 : decode cX8_addTerm 19 = .ok (.iload_n 2, 1) := by decide +kernel
theorem dX8_addTerm_20 : decode cX8_addTerm 20 = .ok (.iload_n 3, 1) := by decide +kernel
theorem dX8_addTerm_21 : decode cX8_addTerm 21 = .ok (.isub, 1) := by decide +kernel
theorem dX8_addTerm_22 : decode cX8_addTerm 22 = .ok (.iconst (-1), 1) := by decide +kernel
theorem dX8_addTerm_23 : decode cX8_addTerm 23 = .ok (.invokevirtual 175, 3) := by decide +kernel
theorem dX8_addTerm_26 : decode cX8_addTerm 26 = .ok (.aload_n 0, 1) := by decide +kernel
theorem dX8_addTerm_27 : decode cX8_addTerm 27 = .ok (.aload_n 0, 1) := by decide +kernel
theorem dX8_addTerm_28 : decode cX8_addTerm 28 = .ok (.getfield 37, 3) := by decide +kernel
theorem dX8_addTerm_31 : decode cX8_addTerm 31 = .ok (.aload_n 0, 1) := by decide +kernel
theorem dX8_addTerm_32 : decode cX8_addTerm 32 = .ok (.getfield 109, 3) := by decide +kernel
theorem dX8_addTerm_35 : decode cX8_addTerm 35 = .ok (.iload_n 2, 1) := by decide +kernel
theorem dX8_addTerm_36 : decode cX8_addTerm 36 = .ok (.iload_n 3, 1) := by decide +kernel
theorem dX8_addTerm_37 : decode cX8_addTerm 37 = .ok (.iadd, 1) := by decide +kernel
theorem dX8_addTerm_38 : decode cX8_addTerm 38 = .ok (.iconst (-1), 1) := by decide +kernel
theorem dX8_addTerm_39 : decode cX8_addTerm 39 = .ok (.invokevirtual 175, 3) := by decide +kernel
theorem dX8_addTerm_42 : decode cX8_addTerm 42 = .ok (.iconst 0, 1) := by decide +kernel
theorem dX8_addTerm_43 : decode cX8_addTerm 43 = .ok (.istore 5, 2) := by decide +kernel
theorem dX8_addTerm_45 : decode cX8_addTerm 45 = .ok (.iload 5, 2) := by decide +kernel
theorem dX8_addTerm_47 : decode cX8_addTerm 47 = .ok (.aload_n 0, 1) := by decide +kernel
theorem dX8_addTerm_48 : decode cX8_addTerm 48 = .ok (.getfield 17, 3) := by decide +kernel
theorem dX8_addTerm_51 : decode cX8_addTerm 51 = .ok (.if_icmp .ge 30, 3) := by decide +kernel
theorem dX8_addTerm_54 : decode cX8_addTerm 54 = .ok (.aload_n 0, 1) := by decide +kernel
theorem dX8_addTerm_55 : decode cX8_addTerm 55 = .ok (.getfield 40, 3) := by decide +kernel
theorem dX8_addTerm_58 : decode cX8_addTerm 58 = .ok (.iload 5, 2) := by decide +kernel
theorem dX8_addTerm_60 : decode cX8_addTerm 60 = .ok (.dup2, 1) := by decide +kernel
theorem dX8_addTerm_61 : decode cX8_addTerm 61 = .ok (.laload, 1) := by decide +kernel
theorem dX8_addTerm_62 : decode cX8_addTerm 62 = .ok (.iload 4, 2) := by decide +kernel
theorem dX8_addTerm_64 : decode cX8_addTerm 64 = .ok (.i2l, 1) := by decide +kernel
theorem dX8_addTerm_65 : decode cX8_addTerm 65 = .ok (.aload_n 0, 1) := by decide +kernel
theorem dX8_addTerm_66 : decode cX8_addTerm 66 = .ok (.getfield 37, 3) := by decide +kernel
theorem dX8_addTerm_69 : decode cX8_addTerm 69 = .ok (.iload 5, 2) := by decide +kernel
theorem dX8_addTerm_71 : decode cX8_addTerm 71 = .ok (.laload, 1) := by decide +kernel
theorem dX8_addTerm_72 : decode cX8_addTerm 72 = .ok (.lmul, 1) := by decide +kernel
theorem dX8_addTerm_73 : decode cX8_addTerm 73 = .ok (.ladd, 1) := by decide +kernel
theorem dX8_addTerm_74 : decode cX8_addTerm 74 = .ok (.lastore, 1) := by decide +kernel
theorem dX8_addTerm_75 : decode cX8_addTerm 75 = .ok (.iinc 5 1, 3) := by decide +kernel
theorem dX8_addTerm_78 : decode cX8_addTerm 78 = .ok (.goto (-33), 3) := by decide +kernel
theorem dX8_addTerm_81 : decode cX8_addTerm 81 = .ok (.return_, 1) := by decide +kernel
theorem dX8_keepsOther_0 : decode cX8_keepsOther 0 = .ok (.iconst 0, 1) := by decide +kernel
theorem dX8_keepsOther_1 : decode cX8_keepsOther 1 = .ok (.istore_n 3, 1) := by decide +kernel
theorem dX8_keepsOther_2 : decode cX8_keepsOther 2 = .ok (.iload_n 3, 1) := by decide +kernel
theorem dX8_keepsOther_3 : decode cX8_keepsOther 3 = .ok (.bipush 24, 2) := by decide +kernel
theorem dX8_keepsOther_5 : decode cX8_keepsOther 5 = .ok (.if_icmp .ge 23, 3) := by decide +kernel
theorem dX8_keepsOther_8 : decode cX8_keepsOther 8 = .ok (.aload_n 1, 1) := by decide +kernel
theorem dX8_keepsOther_9 : decode cX8_keepsOther 9 = .ok (.bipush 24, 2) := by decide +kernel
theorem dX8_keepsOther_11 : decode cX8_keepsOther 11 = .ok (.iload_n 2, 1) := by decide +kernel
theorem dX8_keepsOther_12 : decode cX8_keepsOther 12 = .ok (.imul, 1) := by decide +kernel
theorem dX8_keepsOther_13 : decode cX8_keepsOther 13 = .ok (.iload_n 3, 1) := by decide +kernel
theorem dX8_keepsOther_14 : decode cX8_keepsOther 14 = .ok (.iadd, 1) := by decide +kernel
theorem dX8_keepsOther_15 : decode cX8_keepsOther 15 = .ok (.aload_n 0, 1) := by decide +kernel
theorem dX8_keepsOther_16 : decode cX8_keepsOther 16 = .ok (.getfield 40, 3) := by decide +kernel
theorem dX8_keepsOther_19 : decode cX8_keepsOther 19 = .ok (.iload_n 3, 1) := by decide +kernel
theorem dX8_keepsOther_20 : decode cX8_keepsOther 20 = .ok (.laload, 1) := by decide +kernel
theorem dX8_keepsOther_21 : decode cX8_keepsOther 21 = .ok (.lastore, 1) := by decide +kernel
theorem dX8_keepsOther_22 : decode cX8_keepsOther 22 = .ok (.iinc 3 1, 3) := by decide +kernel
theorem dX8_keepsOther_25 : decode cX8_keepsOther 25 = .ok (.goto (-23), 3) := by decide +kernel
theorem dX8_keepsOther_28 : decode cX8_keepsOther 28 = .ok (.aload_n 0, 1) := by decide +kernel
theorem dX8_keepsOther_29 : decode cX8_keepsOther 29 = .ok (.getfield 40, 3) := by decide +kernel
theorem dX8_keepsOther_32 : decode cX8_keepsOther 32 = .ok (.invokestatic 97, 3) := by decide +kernel
theorem dX8_keepsOther_35 : decode cX8_keepsOther 35 = .ok (.ireturn, 1) := by decide +kernel
theorem dX8_findBeta_0 : decode cX8_findBeta 0 = .ok (.iconst 1, 1) := by decide +kernel
theorem dX8_findBeta_1 : decode cX8_findBeta 1 = .ok (.istore_n 1, 1) := by decide +kernel
theorem dX8_findBeta_2 : decode cX8_findBeta 2 = .ok (.iconst 0, 1) := by decide +kernel
theorem dX8_findBeta_3 : decode cX8_findBeta 3 = .ok (.istore_n 2, 1) := by decide +kernel
theorem dX8_findBeta_4 : decode cX8_findBeta 4 = .ok (.iload_n 2, 1) := by decide +kernel
theorem dX8_findBeta_5 : decode cX8_findBeta 5 = .ok (.iconst 5, 1) := by decide +kernel
theorem dX8_findBeta_6 : decode cX8_findBeta 6 = .ok (.if_icmp .ge 53, 3) := by decide +kernel
theorem dX8_findBeta_9 : decode cX8_findBeta 9 = .ok (.aload_n 0, 1) := by decide +kernel
theorem dX8_findBeta_10 : decode cX8_findBeta 10 = .ok (.aload_n 0, 1) := by decide +kernel
theorem dX8_findBeta_11 : decode cX8_findBeta 11 = .ok (.getfield 40, 3) := by decide +kernel
theorem dX8_findBeta_14 : decode cX8_findBeta 14 = .ok (.invokevirtual 136, 3) := by decide +kernel
theorem dX8_findBeta_17 : decode cX8_findBeta 17 = .ok (.iconst 0, 1) := by decide +kernel
theorem dX8_findBeta_18 : decode cX8_findBeta 18 = .ok (.istore_n 3, 1) := by decide +kernel
theorem dX8_findBeta_19 : decode cX8_findBeta 19 = .ok (.iload_n 3, 1) := by decide +kernel
theorem dX8_findBeta_20 : decode cX8_findBeta 20 = .ok (.iload_n 2, 1) := by decide +kernel
theorem dX8_findBeta_21 : decode cX8_findBeta 21 = .ok (.if_icmp .gt 20, 3) := by decide +kernel
theorem dX8_findBeta_24 : decode cX8_findBeta 24 = .ok (.aload_n 0, 1) := by decide +kernel
theorem dX8_findBeta_25 : decode cX8_findBeta 25 = .ok (.aload_n 0, 1) := by decide +kernel
theorem dX8_findBeta_26 : decode cX8_findBeta 26 = .ok (.getfield 43, 3) := by decide +kernel
theorem dX8_findBeta_29 : decode cX8_findBeta 29 = .ok (.iload_n 2, 1) := by decide +kernel
theorem dX8_findBeta_30 : decode cX8_findBeta 30 = .ok (.iload_n 3, 1) := by decide +kernel
theorem dX8_findBeta_31 : decode cX8_findBeta 31 = .ok (.iconst 1, 1) := by decide +kernel
theorem dX8_findBeta_32 : decode cX8_findBeta 32 = .ok (.invokevirtual 179, 3) := by decide +kernel
theorem dX8_findBeta_35 : decode cX8_findBeta 35 = .ok (.iinc 3 1, 3) := by decide +kernel
theorem dX8_findBeta_38 : decode cX8_findBeta 38 = .ok (.goto (-19), 3) := by decide +kernel
theorem dX8_findBeta_41 : decode cX8_findBeta 41 = .ok (.iload_n 1, 1) := by decide +kernel
theorem dX8_findBeta_42 : decode cX8_findBeta 42 = .ok (.aload_n 0, 1) := by decide +kernel
theorem dX8_findBeta_43 : decode cX8_findBeta 43 = .ok (.aload_n 0, 1) := by decide +kernel
theorem dX8_findBeta_44 : decode cX8_findBeta 44 = .ok (.getfield 46, 3) := by decide +kernel
theorem dX8_findBeta_47 : decode cX8_findBeta 47 = .ok (.iload_n 2, 1) := by decide +kernel
theorem dX8_findBeta_48 : decode cX8_findBeta 48 = .ok (.invokevirtual 182, 3) := by decide +kernel
theorem dX8_findBeta_51 : decode cX8_findBeta 51 = .ok (.iand, 1) := by decide +kernel
theorem dX8_findBeta_52 : decode cX8_findBeta 52 = .ok (.istore_n 1, 1) := by decide +kernel
theorem dX8_findBeta_53 : decode cX8_findBeta 53 = .ok (.iinc 2 1, 3) := by decide +kernel
theorem dX8_findBeta_56 : decode cX8_findBeta 56 = .ok (.goto (-52), 3) := by decide +kernel
theorem dX8_findBeta_59 : decode cX8_findBeta 59 = .ok (.iload_n 1, 1) := by decide +kernel
theorem dX8_findBeta_60 : decode cX8_findBeta 60 = .ok (.ireturn, 1) := by decide +kernel
theorem dX8_findAlpha_0 : decode cX8_findAlpha 0 = .ok (.iconst 0, 1) := by decide +kernel
theorem dX8_findAlpha_1 : decode cX8_findAlpha 1 = .ok (.istore_n 1, 1) := by decide +kernel
theorem dX8_findAlpha_2 : decode cX8_findAlpha 2 = .ok (.iload_n 1, 1) := by decide +kernel
theorem dX8_findAlpha_3 : decode cX8_findAlpha 3 = .ok (.iconst 5, 1) := by decide +kernel
theorem dX8_findAlpha_4 : decode cX8_findAlpha 4 = .ok (.if_icmp .ge 79, 3) := by decide +kernel
theorem dX8_findAlpha_7 : decode cX8_findAlpha 7 = .ok (.aload_n 0, 1) := by decide +kernel
theorem dX8_findAlpha_8 : decode cX8_findAlpha 8 = .ok (.aload_n 0, 1) := by decide +kernel
theorem dX8_findAlpha_9 : decode cX8_findAlpha 9 = .ok (.getfield 46, 3) := by decide +kernel
theorem dX8_findAlpha_12 : decode cX8_findAlpha 12 = .ok (.bipush 24, 2) := by decide +kernel
theorem dX8_findAlpha_14 : decode cX8_findAlpha 14 = .ok (.iload_n 1, 1) := by decide +kernel
theorem dX8_findAlpha_15 : decode cX8_findAlpha 15 = .ok (.imul, 1) := by decide +kernel
theorem dX8_findAlpha_16 : decode cX8_findAlpha 16 = .ok (.aload_n 0, 1) := by decide +kernel
theorem dX8_findAlpha_17 : decode cX8_findAlpha 17 = .ok (.getfield 40, 3) := by decide +kernel
theorem dX8_findAlpha_20 : decode cX8_findAlpha 20 = .ok (.invokevirtual 129, 3) := by decide +kernel
theorem dX8_findAlpha_23 : decode cX8_findAlpha 23 = .ok (.iconst 0, 1) := by decide +kernel
theorem dX8_findAlpha_24 : decode cX8_findAlpha 24 = .ok (.istore_n 2, 1) := by decide +kernel
theorem dX8_findAlpha_25 : decode cX8_findAlpha 25 = .ok (.iload_n 2, 1) := by decide +kernel
theorem dX8_findAlpha_26 : decode cX8_findAlpha 26 = .ok (.iload_n 1, 1) := by decide +kernel
theorem dX8_findAlpha_27 : decode cX8_findAlpha 27 = .ok (.if_icmp .ge 20, 3) := by decide +kernel
theorem dX8_findAlpha_30 : decode cX8_findAlpha 30 = .ok (.aload_n 0, 1) := by decide +kernel
theorem dX8_findAlpha_31 : decode cX8_findAlpha 31 = .ok (.aload_n 0, 1) := by decide +kernel
theorem dX8_findAlpha_32 : decode cX8_findAlpha 32 = .ok (.getfield 43, 3) := by decide +kernel
theorem dX8_findAlpha_35 : decode cX8_findAlpha 35 = .ok (.iload_n 1, 1) := by decide +kernel
theorem dX8_findAlpha_36 : decode cX8_findAlpha 36 = .ok (.iload_n 2, 1) := by decide +kernel
theorem dX8_findAlpha_37 : decode cX8_findAlpha 37 = .ok (.iconst (-1), 1) := by decide +kernel
theorem dX8_findAlpha_38 : decode cX8_findAlpha 38 = .ok (.invokevirtual 179, 3) := by decide +kernel
theorem dX8_findAlpha_41 : decode cX8_findAlpha 41 = .ok (.iinc 2 1, 3) := by decide +kernel
theorem dX8_findAlpha_44 : decode cX8_findAlpha 44 = .ok (.goto (-19), 3) := by decide +kernel
theorem dX8_findAlpha_47 : decode cX8_findAlpha 47 = .ok (.aload_n 0, 1) := by decide +kernel
theorem dX8_findAlpha_48 : decode cX8_findAlpha 48 = .ok (.aload_n 0, 1) := by decide +kernel
theorem dX8_findAlpha_49 : decode cX8_findAlpha 49 = .ok (.getfield 40, 3) := by decide +kernel
theorem dX8_findAlpha_52 : decode cX8_findAlpha 52 = .ok (.aload_n 0, 1) := by decide +kernel
theorem dX8_findAlpha_53 : decode cX8_findAlpha 53 = .ok (.getfield 109, 3) := by decide +kernel
theorem dX8_findAlpha_56 : decode cX8_findAlpha 56 = .ok (.iconst 2, 1) := by decide +kernel
theorem dX8_findAlpha_57 : decode cX8_findAlpha 57 = .ok (.iload_n 1, 1) := by decide +kernel
theorem dX8_findAlpha_58 : decode cX8_findAlpha 58 = .ok (.imul, 1) := by decide +kernel
theorem dX8_findAlpha_59 : decode cX8_findAlpha 59 = .ok (.iconst 1, 1) := by decide +kernel
theorem dX8_findAlpha_60 : decode cX8_findAlpha 60 = .ok (.invokevirtual 175, 3) := by decide +kernel
theorem dX8_findAlpha_63 : decode cX8_findAlpha 63 = .ok (.aload_n 0, 1) := by decide +kernel
theorem dX8_findAlpha_64 : decode cX8_findAlpha 64 = .ok (.aload_n 0, 1) := by decide +kernel
theorem dX8_findAlpha_65 : decode cX8_findAlpha 65 = .ok (.getfield 43, 3) := by decide +kernel
theorem dX8_findAlpha_68 : decode cX8_findAlpha 68 = .ok (.iload_n 1, 1) := by decide +kernel
theorem dX8_findAlpha_69 : decode cX8_findAlpha 69 = .ok (.invokevirtual 182, 3) := by decide +kernel
theorem dX8_findAlpha_72 : decode cX8_findAlpha 72 = .ok (.ifCond .ne 5, 3) := by decide +kernel
theorem dX8_findAlpha_75 : decode cX8_findAlpha 75 = .ok (.iconst 0, 1) := by decide +kernel
theorem dX8_findAlpha_76 : decode cX8_findAlpha 76 = .ok (.ireturn, 1) := by decide +kernel
theorem dX8_findAlpha_77 : decode cX8_findAlpha 77 = .ok (.iinc 1 1, 3) := by decide +kernel
theorem dX8_findAlpha_80 : decode cX8_findAlpha 80 = .ok (.goto (-78), 3) := by decide +kernel
theorem dX8_findAlpha_83 : decode cX8_findAlpha 83 = .ok (.iconst 1, 1) := by decide +kernel
theorem dX8_findAlpha_84 : decode cX8_findAlpha 84 = .ok (.ireturn, 1) := by decide +kernel
theorem dX8_copyPair_0 : decode cX8_copyPair 0 = .ok (.iconst 0, 1) := by decide +kernel
theorem dX8_copyPair_1 : decode cX8_copyPair 1 = .ok (.istore 4, 2) := by decide +kernel
theorem dX8_copyPair_3 : decode cX8_copyPair 3 = .ok (.iload 4, 2) := by decide +kernel
theorem dX8_copyPair_5 : decode cX8_copyPair 5 = .ok (.bipush 120, 2) := by decide +kernel
theorem dX8_copyPair_7 : decode cX8_copyPair 7 = .ok (.if_icmp .ge 21, 3) := by decide +kernel
theorem dX8_copyPair_10 : decode cX8_copyPair 10 = .ok (.aload_n 2, 1) := by decide +kernel
theorem dX8_copyPair_11 : decode cX8_copyPair 11 = .ok (.iload_n 3, 1) := by decide +kernel
theorem dX8_copyPair_12 : decode cX8_copyPair 12 = .ok (.iload 4, 2) := by decide +kernel
theorem dX8_copyPair_14 : decode cX8_copyPair 14 = .ok (.iadd, 1) := by decide +kernel
theorem dX8_copyPair_15 : decode cX8_copyPair 15 = .ok (.aload_n 0, 1) := by decide +kernel
theorem dX8_copyPair_16 : decode cX8_copyPair 16 = .ok (.iload_n 1, 1) := by decide +kernel
theorem dX8_copyPair_17 : decode cX8_copyPair 17 = .ok (.iload 4, 2) := by decide +kernel
theorem dX8_copyPair_19 : decode cX8_copyPair 19 = .ok (.iadd, 1) := by decide +kernel
theorem dX8_copyPair_20 : decode cX8_copyPair 20 = .ok (.laload, 1) := by decide +kernel
theorem dX8_copyPair_21 : decode cX8_copyPair 21 = .ok (.lastore, 1) := by decide +kernel
theorem dX8_copyPair_22 : decode cX8_copyPair 22 = .ok (.iinc 4 1, 3) := by decide +kernel
theorem dX8_copyPair_25 : decode cX8_copyPair 25 = .ok (.goto (-22), 3) := by decide +kernel
theorem dX8_copyPair_28 : decode cX8_copyPair 28 = .ok (.return_, 1) := by decide +kernel
theorem dX8_takesNewPair_0 : decode cX8_takesNewPair 0 = .ok (.aload_n 0, 1) := by decide +kernel
theorem dX8_takesNewPair_1 : decode cX8_takesNewPair 1 = .ok (.getfield 43, 3) := by decide +kernel
theorem dX8_takesNewPair_4 : decode cX8_takesNewPair 4 = .ok (.iconst 0, 1) := by decide +kernel
theorem dX8_takesNewPair_5 : decode cX8_takesNewPair 5 = .ok (.aload_n 0, 1) := by decide +kernel
theorem dX8_takesNewPair_6 : decode cX8_takesNewPair 6 = .ok (.getfield 25, 3) := by decide +kernel
theorem dX8_takesNewPair_9 : decode cX8_takesNewPair 9 = .ok (.iconst 0, 1) := by decide +kernel
theorem dX8_takesNewPair_10 : decode cX8_takesNewPair 10 = .ok (.invokestatic 186, 3) := by decide +kernel
theorem dX8_takesNewPair_13 : decode cX8_takesNewPair 13 = .ok (.aload_n 0, 1) := by decide +kernel
theorem dX8_takesNewPair_14 : decode cX8_takesNewPair 14 = .ok (.getfield 46, 3) := by decide +kernel
theorem dX8_takesNewPair_17 : decode cX8_takesNewPair 17 = .ok (.iconst 0, 1) := by decide +kernel
theorem dX8_takesNewPair_18 : decode cX8_takesNewPair 18 = .ok (.aload_n 0, 1) := by decide +kernel
theorem dX8_takesNewPair_19 : decode cX8_takesNewPair 19 = .ok (.getfield 28, 3) := by decide +kernel
theorem dX8_takesNewPair_22 : decode cX8_takesNewPair 22 = .ok (.iconst 0, 1) := by decide +kernel
theorem dX8_takesNewPair_23 : decode cX8_takesNewPair 23 = .ok (.invokestatic 186, 3) := by decide +kernel
theorem dX8_takesNewPair_26 : decode cX8_takesNewPair 26 = .ok (.aload_n 0, 1) := by decide +kernel
theorem dX8_takesNewPair_27 : decode cX8_takesNewPair 27 = .ok (.iconst 0, 1) := by decide +kernel
theorem dX8_takesNewPair_28 : decode cX8_takesNewPair 28 = .ok (.putfield 190, 3) := by decide +kernel
theorem dX8_takesNewPair_31 : decode cX8_takesNewPair 31 = .ok (.aload_n 0, 1) := by decide +kernel
theorem dX8_takesNewPair_32 : decode cX8_takesNewPair 32 = .ok (.iconst 0, 1) := by decide +kernel
theorem dX8_takesNewPair_33 : decode cX8_takesNewPair 33 = .ok (.putfield 193, 3) := by decide +kernel
theorem dX8_takesNewPair_36 : decode cX8_takesNewPair 36 = .ok (.return_, 1) := by decide +kernel
theorem dX8_makeUnitPair_0 : decode cX8_makeUnitPair 0 = .ok (.iconst 0, 1) := by decide +kernel
theorem dX8_makeUnitPair_1 : decode cX8_makeUnitPair 1 = .ok (.istore_n 1, 1) := by decide +kernel
theorem dX8_makeUnitPair_2 : decode cX8_makeUnitPair 2 = .ok (.iload_n 1, 1) := by decide +kernel
theorem dX8_makeUnitPair_3 : decode cX8_makeUnitPair 3 = .ok (.bipush 120, 2) := by decide +kernel
theorem dX8_makeUnitPair_5 : decode cX8_makeUnitPair 5 = .ok (.if_icmp .ge 24, 3) := by decide +kernel
theorem dX8_makeUnitPair_8 : decode cX8_makeUnitPair 8 = .ok (.aload_n 0, 1) := by decide +kernel
theorem dX8_makeUnitPair_9 : decode cX8_makeUnitPair 9 = .ok (.getfield 46, 3) := by decide +kernel
theorem dX8_makeUnitPair_12 : decode cX8_makeUnitPair 12 = .ok (.iload_n 1, 1) := by decide +kernel
theorem dX8_makeUnitPair_13 : decode cX8_makeUnitPair 13 = .ok (.iload_n 1, 1) := by decide +kernel
theorem dX8_makeUnitPair_14 : decode cX8_makeUnitPair 14 = .ok (.ifCond .ne 7, 3) := by decide +kernel
theorem dX8_makeUnitPair_17 : decode cX8_makeUnitPair 17 = .ok (.lconst 1, 1) := by decide +kernel
theorem dX8_makeUnitPair_18 : decode cX8_makeUnitPair 18 = .ok (.goto 4, 3) := by decide +kernel
theorem dX8_makeUnitPair_21 : decode cX8_makeUnitPair 21 = .ok (.lconst 0, 1) := by decide +kernel
theorem dX8_makeUnitPair_22 : decode cX8_makeUnitPair 22 = .ok (.lastore, 1) := by decide +kernel
theorem dX8_makeUnitPair_23 : decode cX8_makeUnitPair 23 = .ok (.iinc 1 1, 3) := by decide +kernel
theorem dX8_makeUnitPair_26 : decode cX8_makeUnitPair 26 = .ok (.goto (-24), 3) := by decide +kernel
theorem dX8_makeUnitPair_29 : decode cX8_makeUnitPair 29 = .ok (.aload_n 0, 1) := by decide +kernel
theorem dX8_makeUnitPair_30 : decode cX8_makeUnitPair 30 = .ok (.invokevirtual 196, 3) := by decide +kernel
theorem dX8_makeUnitPair_33 : decode cX8_makeUnitPair 33 = .ok (.pop, 1) := by decide +kernel
theorem dX8_makeUnitPair_34 : decode cX8_makeUnitPair 34 = .ok (.aload_n 0, 1) := by decide +kernel
theorem dX8_makeUnitPair_35 : decode cX8_makeUnitPair 35 = .ok (.invokevirtual 200, 3) := by decide +kernel
theorem dX8_makeUnitPair_38 : decode cX8_makeUnitPair 38 = .ok (.return_, 1) := by decide +kernel
theorem dX8_unitPair_0 : decode cX8_unitPair 0 = .ok (.iload_n 1, 1) := by decide +kernel
theorem dX8_unitPair_1 : decode cX8_unitPair 1 = .ok (.i2l, 1) := by decide +kernel
theorem dX8_unitPair_2 : decode cX8_unitPair 2 = .ok (.lconst 0, 1) := by decide +kernel
theorem dX8_unitPair_3 : decode cX8_unitPair 3 = .ok (.lconst 1, 1) := by decide +kernel
theorem dX8_unitPair_4 : decode cX8_unitPair 4 = .ok (.invokestatic 7, 3) := by decide +kernel
theorem dX8_unitPair_7 : decode cX8_unitPair 7 = .ok (.ifCond .ne 5, 3) := by decide +kernel
theorem dX8_unitPair_10 : decode cX8_unitPair 10 = .ok (.iconst (-1), 1) := by decide +kernel
theorem dX8_unitPair_11 : decode cX8_unitPair 11 = .ok (.ireturn, 1) := by decide +kernel
theorem dX8_unitPair_12 : decode cX8_unitPair 12 = .ok (.aload_n 0, 1) := by decide +kernel
theorem dX8_unitPair_13 : decode cX8_unitPair 13 = .ok (.iload_n 1, 1) := by decide +kernel
theorem dX8_unitPair_14 : decode cX8_unitPair 14 = .ok (.putfield 109, 3) := by decide +kernel
theorem dX8_unitPair_17 : decode cX8_unitPair 17 = .ok (.aload_n 0, 1) := by decide +kernel
theorem dX8_unitPair_18 : decode cX8_unitPair 18 = .ok (.invokevirtual 86, 3) := by decide +kernel
theorem dX8_unitPair_21 : decode cX8_unitPair 21 = .ok (.iconst 0, 1) := by decide +kernel
theorem dX8_unitPair_22 : decode cX8_unitPair 22 = .ok (.ireturn, 1) := by decide +kernel
theorem dX8_replace_0 : decode cX8_replace 0 = .ok (.iconst 0, 1) := by decide +kernel
theorem dX8_replace_1 : decode cX8_replace 1 = .ok (.istore 4, 2) := by decide +kernel
theorem dX8_replace_3 : decode cX8_replace 3 = .ok (.iconst 0, 1) := by decide +kernel
theorem dX8_replace_4 : decode cX8_replace 4 = .ok (.istore 5, 2) := by decide +kernel
theorem dX8_replace_6 : decode cX8_replace 6 = .ok (.iload 5, 2) := by decide +kernel
theorem dX8_replace_8 : decode cX8_replace 8 = .ok (.bipush 24, 2) := by decide +kernel
theorem dX8_replace_10 : decode cX8_replace 10 = .ok (.if_icmp .ge 63, 3) := by decide +kernel
theorem dX8_replace_13 : decode cX8_replace 13 = .ok (.aload_n 1, 1) := by decide +kernel
theorem dX8_replace_14 : decode cX8_replace 14 = .ok (.bipush 24, 2) := by decide +kernel
theorem dX8_replace_16 : decode cX8_replace 16 = .ok (.iload_n 2, 1) := by decide +kernel
theorem dX8_replace_17 : decode cX8_replace 17 = .ok (.imul, 1) := by decide +kernel
theorem dX8_replace_18 : decode cX8_replace 18 = .ok (.iload 5, 2) := by decide +kernel
theorem dX8_replace_20 : decode cX8_replace 20 = .ok (.iadd, 1) := by decide +kernel
theorem dX8_replace_21 : decode cX8_replace 21 = .ok (.laload, 1) := by decide +kernel
theorem dX8_replace_22 : decode cX8_replace 22 = .ok (.aload_n 0, 1) := by decide +kernel
theorem dX8_replace_23 : decode cX8_replace 23 = .ok (.getfield 21, 3) := by decide +kernel
theorem dX8_replace_26 : decode cX8_replace 26 = .ok (.bipush 24, 2) := by decide +kernel
theorem dX8_replace_28 : decode cX8_replace 28 = .ok (.iload_n 3, 1) := by decide +kernel
theorem dX8_replace_29 : decode cX8_replace 29 = .ok (.imul, 1) := by decide +kernel
theorem dX8_replace_30 : decode cX8_replace 30 = .ok (.iload 5, 2) := by decide +kernel
theorem dX8_replace_32 : decode cX8_replace 32 = .ok (.iadd, 1) := by decide +kernel
theorem dX8_replace_33 : decode cX8_replace 33 = .ok (.laload, 1) := by decide +kernel
theorem dX8_replace_34 : decode cX8_replace 34 = .ok (.lcmp, 1) := by decide +kernel
theorem dX8_replace_35 : decode cX8_replace 35 = .ok (.ifCond .eq 7, 3) := by decide +kernel
theorem dX8_replace_38 : decode cX8_replace 38 = .ok (.iconst 1, 1) := by decide +kernel
theorem dX8_replace_39 : decode cX8_replace 39 = .ok (.goto 5, 3) := by decide +kernel
theorem dX8_replace_42 : decode cX8_replace 42 = .ok (.iload 4, 2) := by decide +kernel
theorem dX8_replace_44 : decode cX8_replace 44 = .ok (.istore 4, 2) := by decide +kernel
theorem dX8_replace_46 : decode cX8_replace 46 = .ok (.aload_n 1, 1) := by decide +kernel
theorem dX8_replace_47 : decode cX8_replace 47 = .ok (.bipush 24, 2) := by decide +kernel
theorem dX8_replace_49 : decode cX8_replace 49 = .ok (.iload_n 2, 1) := by decide +kernel
theorem dX8_replace_50 : decode cX8_replace 50 = .ok (.imul, 1) := by decide +kernel
theorem dX8_replace_51 : decode cX8_replace 51 = .ok (.iload 5, 2) := by decide +kernel
theorem dX8_replace_53 : decode cX8_replace 53 = .ok (.iadd, 1) := by decide +kernel
theorem dX8_replace_54 : decode cX8_replace 54 = .ok (.aload_n 0, 1) := by decide +kernel
theorem dX8_replace_55 : decode cX8_replace 55 = .ok (.getfield 21, 3) := by decide +kernel
theorem dX8_replace_58 : decode cX8_replace 58 = .ok (.bipush 24, 2) := by decide +kernel
theorem dX8_replace_60 : decode cX8_replace 60 = .ok (.iload_n 3, 1) := by decide +kernel
theorem dX8_replace_61 : decode cX8_replace 61 = .ok (.imul, 1) := by decide +kernel
theorem dX8_replace_62 : decode cX8_replace 62 = .ok (.iload 5, 2) := by decide +kernel
theorem dX8_replace_64 : decode cX8_replace 64 = .ok (.iadd, 1) := by decide +kernel
theorem dX8_replace_65 : decode cX8_replace 65 = .ok (.laload, 1) := by decide +kernel
theorem dX8_replace_66 : decode cX8_replace 66 = .ok (.lastore, 1) := by decide +kernel
theorem dX8_replace_67 : decode cX8_replace 67 = .ok (.iinc 5 1, 3) := by decide +kernel
theorem dX8_replace_70 : decode cX8_replace 70 = .ok (.goto (-64), 3) := by decide +kernel
theorem dX8_replace_73 : decode cX8_replace 73 = .ok (.iload 4, 2) := by decide +kernel
theorem dX8_replace_75 : decode cX8_replace 75 = .ok (.ireturn, 1) := by decide +kernel
theorem dX8_setAlpha_0 : decode cX8_setAlpha 0 = .ok (.iload_n 2, 1) := by decide +kernel
theorem dX8_setAlpha_1 : decode cX8_setAlpha 1 = .ok (.invokestatic 112, 3) := by decide +kernel
theorem dX8_setAlpha_4 : decode cX8_setAlpha 4 = .ok (.ifCond .ne 6, 3) := by decide +kernel
theorem dX8_setAlpha_7 : decode cX8_setAlpha 7 = .ok (.bipush (-2), 2) := by decide +kernel
theorem dX8_setAlpha_9 : decode cX8_setAlpha 9 = .ok (.ireturn, 1) := by decide +kernel
theorem dX8_setAlpha_10 : decode cX8_setAlpha 10 = .ok (.iload_n 1, 1) := by decide +kernel
theorem dX8_setAlpha_11 : decode cX8_setAlpha 11 = .ok (.i2l, 1) := by decide +kernel
theorem dX8_setAlpha_12 : decode cX8_setAlpha 12 = .ok (.lconst 0, 1) := by decide +kernel
theorem dX8_setAlpha_13 : decode cX8_setAlpha 13 = .ok (.ldc2_w 105, 3) := by decide +kernel
theorem dX8_setAlpha_16 : decode cX8_setAlpha 16 = .ok (.invokestatic 7, 3) := by decide +kernel
theorem dX8_setAlpha_19 : decode cX8_setAlpha 19 = .ok (.ifCond .ne 5, 3) := by decide +kernel
theorem dX8_setAlpha_22 : decode cX8_setAlpha 22 = .ok (.iconst (-1), 1) := by decide +kernel
theorem dX8_setAlpha_23 : decode cX8_setAlpha 23 = .ok (.ireturn, 1) := by decide +kernel
theorem dX8_setAlpha_24 : decode cX8_setAlpha 24 = .ok (.aload_n 0, 1) := by decide +kernel
theorem dX8_setAlpha_25 : decode cX8_setAlpha 25 = .ok (.getfield 25, 3) := by decide +kernel
theorem dX8_setAlpha_28 : decode cX8_setAlpha 28 = .ok (.iconst 0, 1) := by decide +kernel
theorem dX8_setAlpha_29 : decode cX8_setAlpha 29 = .ok (.aload_n 0, 1) := by decide +kernel
theorem dX8_setAlpha_30 : decode cX8_setAlpha 30 = .ok (.getfield 43, 3) := by decide +kernel
theorem dX8_setAlpha_33 : decode cX8_setAlpha 33 = .ok (.iconst 0, 1) := by decide +kernel
theorem dX8_setAlpha_34 : decode cX8_setAlpha 34 = .ok (.invokestatic 186, 3) := by decide +kernel
theorem dX8_setAlpha_37 : decode cX8_setAlpha 37 = .ok (.aload_n 0, 1) := by decide +kernel
theorem dX8_setAlpha_38 : decode cX8_setAlpha 38 = .ok (.aload_n 0, 1) := by decide +kernel
theorem dX8_setAlpha_39 : decode cX8_setAlpha 39 = .ok (.getfield 43, 3) := by decide +kernel
theorem dX8_setAlpha_42 : decode cX8_setAlpha 42 = .ok (.iload_n 1, 1) := by decide +kernel
theorem dX8_setAlpha_43 : decode cX8_setAlpha 43 = .ok (.iload_n 2, 1) := by decide +kernel
theorem dX8_setAlpha_44 : decode cX8_setAlpha 44 = .ok (.invokevirtual 203, 3) := by decide +kernel
theorem dX8_setAlpha_47 : decode cX8_setAlpha 47 = .ok (.istore_n 3, 1) := by decide +kernel
theorem dX8_setAlpha_48 : decode cX8_setAlpha 48 = .ok (.aload_n 0, 1) := by decide +kernel
theorem dX8_setAlpha_49 : decode cX8_setAlpha 49 = .ok (.invokevirtual 207, 3) := by decide +kernel
theorem dX8_setAlpha_52 : decode cX8_setAlpha 52 = .ok (.ifCond .ne 6, 3) := by decide +kernel
theorem dX8_setAlpha_55 : decode cX8_setAlpha 55 = .ok (.bipush (-3), 2) := by decide +kernel
theorem dX8_setAlpha_57 : decode cX8_setAlpha 57 = .ok (.ireturn, 1) := by decide +kernel
theorem dX8_setAlpha_58 : decode cX8_setAlpha 58 = .ok (.aload_n 0, 1) := by decide +kernel
theorem dX8_setAlpha_59 : decode cX8_setAlpha 59 = .ok (.invokevirtual 200, 3) := by decide +kernel
theorem dX8_setAlpha_62 : decode cX8_setAlpha 62 = .ok (.iload_n 3, 1) := by decide +kernel
theorem dX8_setAlpha_63 : decode cX8_setAlpha 63 = .ok (.ireturn, 1) := by decide +kernel
theorem dX8_setBeta_0 : decode cX8_setBeta 0 = .ok (.iload_n 2, 1) := by decide +kernel
theorem dX8_setBeta_1 : decode cX8_setBeta 1 = .ok (.invokestatic 112, 3) := by decide +kernel
theorem dX8_setBeta_4 : decode cX8_setBeta 4 = .ok (.ifCond .ne 6, 3) := by decide +kernel
theorem dX8_setBeta_7 : decode cX8_setBeta 7 = .ok (.bipush (-2), 2) := by decide +kernel
theorem dX8_setBeta_9 : decode cX8_setBeta 9 = .ok (.ireturn, 1) := by decide +kernel
theorem dX8_setBeta_10 : decode cX8_setBeta 10 = .ok (.iload_n 1, 1) := by decide +kernel
theorem dX8_setBeta_11 : decode cX8_setBeta 11 = .ok (.i2l, 1) := by decide +kernel
theorem dX8_setBeta_12 : decode cX8_setBeta 12 = .ok (.lconst 0, 1) := by decide +kernel
theorem dX8_setBeta_13 : decode cX8_setBeta 13 = .ok (.ldc2_w 105, 3) := by decide +kernel
theorem dX8_setBeta_16 : decode cX8_setBeta 16 = .ok (.invokestatic 7, 3) := by decide +kernel
theorem dX8_setBeta_19 : decode cX8_setBeta 19 = .ok (.ifCond .ne 5, 3) := by decide +kernel
theorem dX8_setBeta_22 : decode cX8_setBeta 22 = .ok (.iconst (-1), 1) := by decide +kernel
theorem dX8_setBeta_23 : decode cX8_setBeta 23 = .ok (.ireturn, 1) := by decide +kernel
theorem dX8_setBeta_24 : decode cX8_setBeta 24 = .ok (.aload_n 0, 1) := by decide +kernel
theorem dX8_setBeta_25 : decode cX8_setBeta 25 = .ok (.getfield 28, 3) := by decide +kernel
theorem dX8_setBeta_28 : decode cX8_setBeta 28 = .ok (.iconst 0, 1) := by decide +kernel
theorem dX8_setBeta_29 : decode cX8_setBeta 29 = .ok (.aload_n 0, 1) := by decide +kernel
theorem dX8_setBeta_30 : decode cX8_setBeta 30 = .ok (.getfield 46, 3) := by decide +kernel
theorem dX8_setBeta_33 : decode cX8_setBeta 33 = .ok (.iconst 0, 1) := by decide +kernel
theorem dX8_setBeta_34 : decode cX8_setBeta 34 = .ok (.invokestatic 186, 3) := by decide +kernel
theorem dX8_setBeta_37 : decode cX8_setBeta 37 = .ok (.aload_n 0, 1) := by decide +kernel
theorem dX8_setBeta_38 : decode cX8_setBeta 38 = .ok (.aload_n 0, 1) := by decide +kernel
theorem dX8_setBeta_39 : decode cX8_setBeta 39 = .ok (.getfield 46, 3) := by decide +kernel
theorem dX8_setBeta_42 : decode cX8_setBeta 42 = .ok (.iload_n 1, 1) := by decide +kernel
theorem dX8_setBeta_43 : decode cX8_setBeta 43 = .ok (.iload_n 2, 1) := by decide +kernel
