theorem dX12_init_0 : decode cX12_init 0 = .ok (.aload_n 0, 1) := z_dd_42 (by decide +kernel)
theorem dX12_init_1 : decode cX12_init 1 = .ok (.invokespecial 1, 3) := z_dd_183 (by decide +kernel)
theorem dX12_init_4 : decode cX12_init 4 = .ok (.aload_n 0, 1) := z_dd_42 (by decide +kernel)
theorem dX12_init_5 : decode cX12_init 5 = .ok (.bipush 30, 2) := z_dd_16 (by decide +kernel)
theorem dX12_init_7 : decode cX12_init 7 = .ok (.newarray .int, 2) := z_dd_188_int (by decide +kernel)
theorem dX12_init_9 : decode cX12_init 9 = .ok (.putfield 7, 3) := z_dd_181 (by decide +kernel)
theorem dX12_init_12 : decode cX12_init 12 = .ok (.aload_n 0, 1) := z_dd_42 (by decide +kernel)
theorem dX12_init_13 : decode cX12_init 13 = .ok (.bipush 30, 2) := z_dd_16 (by decide +kernel)
theorem dX12_init_15 : decode cX12_init 15 = .ok (.newarray .int, 2) := z_dd_188_int (by decide +kernel)
theorem dX12_init_17 : decode cX12_init 17 = .ok (.putfield 13, 3) := z_dd_181 (by decide +kernel)
theorem dX12_init_20 : decode cX12_init 20 = .ok (.aload_n 0, 1) := z_dd_42 (by decide +kernel)
theorem dX12_init_21 : decode cX12_init 21 = .ok (.bipush 30, 2) := z_dd_16 (by decide +kernel)
theorem dX12_init_23 : decode cX12_init 23 = .ok (.newarray .int, 2) := z_dd_188_int (by decide +kernel)
theorem dX12_init_25 : decode cX12_init 25 = .ok (.putfield 16, 3) := z_dd_181 (by decide +kernel)
theorem dX12_init_28 : decode cX12_init 28 = .ok (.aload_n 0, 1) := z_dd_42 (by decide +kernel)
theorem dX12_init_29 : decode cX12_init 29 = .ok (.bipush 30, 2) := z_dd_16 (by decide +kernel)
theorem dX12_init_31 : decode cX12_init 31 = .ok (.newarray .int, 2) := z_dd_188_int (by decide +kernel)
theorem dX12_init_33 : decode cX12_init 33 = .ok (.putfield 19, 3) := z_dd_181 (by decide +kernel)
theorem dX12_init_36 : decode cX12_init 36 = .ok (.aload_n 0, 1) := z_dd_42 (by decide +kernel)
theorem dX12_init_37 : decode cX12_init 37 = .ok (.bipush 30, 2) := z_dd_16 (by decide +kernel)
theorem dX12_init_39 : decode cX12_init 39 = .ok (.newarray .int, 2) := z_dd_188_int (by decide +kernel)
theorem dX12_init_41 : decode cX12_init 41 = .ok (.putfield 22, 3) := z_dd_181 (by decide +kernel)
theorem dX12_init_44 : decode cX12_init 44 = .ok (.aload_n 0, 1) := z_dd_42 (by decide +kernel)
theorem dX12_init_45 : decode cX12_init 45 = .ok (.sipush 200, 3) := z_dd_17 (by decide +kernel)
theorem dX12_init_48 : decode cX12_init 48 = .ok (.newarray .int, 2) := z_dd_188_int (by decide +kernel)
theorem dX12_init_50 : decode cX12_init 50 = .ok (.putfield 25, 3) := z_dd_181 (by decide +kernel)
theorem dX12_init_53 : decode cX12_init 53 = .ok (.aload_n 0, 1) := z_dd_42 (by decide +kernel)
theorem dX12_init_54 : decode cX12_init 54 = .ok (.sipush 200, 3) := z_dd_17 (by decide +kernel)
theorem dX12_init_57 : decode cX12_init 57 = .ok (.newarray .int, 2) := z_dd_188_int (by decide +kernel)
theorem dX12_init_59 : decode cX12_init 59 = .ok (.putfield 28, 3) := z_dd_181 (by decide +kernel)
theorem dX12_init_62 : decode cX12_init 62 = .ok (.aload_n 0, 1) := z_dd_42 (by decide +kernel)
theorem dX12_init_63 : decode cX12_init 63 = .ok (.sipush 200, 3) := z_dd_17 (by decide +kernel)
theorem dX12_init_66 : decode cX12_init 66 = .ok (.newarray .int, 2) := z_dd_188_int (by decide +kernel)
theorem dX12_init_68 : decode cX12_init 68 = .ok (.putfield 31, 3) := z_dd_181 (by decide +kernel)
theorem dX12_init_71 : decode cX12_init 71 = .ok (.aload_n 0, 1) := z_dd_42 (by decide +kernel)
theorem dX12_init_72 : decode cX12_init 72 = .ok (.sipush 200, 3) := z_dd_17 (by decide +kernel)
theorem dX12_init_75 : decode cX12_init 75 = .ok (.newarray .int, 2) := z_dd_188_int (by decide +kernel)
theorem dX12_init_77 : decode cX12_init 77 = .ok (.putfield 34, 3) := z_dd_181 (by decide +kernel)
theorem dX12_init_80 : decode cX12_init 80 = .ok (.aload_n 0, 1) := z_dd_42 (by decide +kernel)
theorem dX12_init_81 : decode cX12_init 81 = .ok (.sipush 200, 3) := z_dd_17 (by decide +kernel)
theorem dX12_init_84 : decode cX12_init 84 = .ok (.newarray .int, 2) := z_dd_188_int (by decide +kernel)
theorem dX12_init_86 : decode cX12_init 86 = .ok (.putfield 37, 3) := z_dd_181 (by decide +kernel)
theorem dX12_init_89 : decode cX12_init 89 = .ok (.aload_n 0, 1) := z_dd_42 (by decide +kernel)
theorem dX12_init_90 : decode cX12_init 90 = .ok (.bipush 12, 2) := z_dd_16 (by decide +kernel)
theorem dX12_init_92 : decode cX12_init 92 = .ok (.newarray .int, 2) := z_dd_188_int (by decide +kernel)
theorem dX12_init_94 : decode cX12_init 94 = .ok (.putfield 40, 3) := z_dd_181 (by decide +kernel)
theorem dX12_init_97 : decode cX12_init 97 = .ok (.aload_n 0, 1) := z_dd_42 (by decide +kernel)
theorem dX12_init_98 : decode cX12_init 98 = .ok (.bipush 12, 2) := z_dd_16 (by decide +kernel)
theorem dX12_init_100 : decode cX12_init 100 = .ok (.newarray .int, 2) := z_dd_188_int (by decide +kernel)
theorem dX12_init_102 : decode cX12_init 102 = .ok (.putfield 43, 3) := z_dd_181 (by decide +kernel)
theorem dX12_init_105 : decode cX12_init 105 = .ok (.aload_n 0, 1) := z_dd_42 (by decide +kernel)
theorem dX12_init_106 : decode cX12_init 106 = .ok (.bipush 12, 2) := z_dd_16 (by decide +kernel)
theorem dX12_init_108 : decode cX12_init 108 = .ok (.newarray .int, 2) := z_dd_188_int (by decide +kernel)
theorem dX12_init_110 : decode cX12_init 110 = .ok (.putfield 46, 3) := z_dd_181 (by decide +kernel)
theorem dX12_init_113 : decode cX12_init 113 = .ok (.aload_n 0, 1) := z_dd_42 (by decide +kernel)
theorem dX12_init_114 : decode cX12_init 114 = .ok (.bipush 12, 2) := z_dd_16 (by decide +kernel)
theorem dX12_init_116 : decode cX12_init 116 = .ok (.newarray .int, 2) := z_dd_188_int (by decide +kernel)
theorem dX12_init_118 : decode cX12_init 118 = .ok (.putfield 49, 3) := z_dd_181 (by decide +kernel)
theorem dX12_init_121 : decode cX12_init 121 = .ok (.aload_n 0, 1) := z_dd_42 (by decide +kernel)
theorem dX12_init_122 : decode cX12_init 122 = .ok (.sipush 320, 3) := z_dd_17 (by decide +kernel)
theorem dX12_init_125 : decode cX12_init 125 = .ok (.newarray .int, 2) := z_dd_188_int (by decide +kernel)
theorem dX12_init_127 : decode cX12_init 127 = .ok (.putfield 52, 3) := z_dd_181 (by decide +kernel)
theorem dX12_init_130 : decode cX12_init 130 = .ok (.aload_n 0, 1) := z_dd_42 (by decide +kernel)
theorem dX12_init_131 : decode cX12_init 131 = .ok (.sipush 320, 3) := z_dd_17 (by decide +kernel)
theorem dX12_init_134 : decode cX12_init 134 = .ok (.newarray .int, 2) := z_dd_188_int (by decide +kernel)
theorem dX12_init_136 : decode cX12_init 136 = .ok (.putfield 55, 3) := z_dd_181 (by decide +kernel)
theorem dX12_init_139 : decode cX12_init 139 = .ok (.aload_n 0, 1) := z_dd_42 (by decide +kernel)
theorem dX12_init_140 : decode cX12_init 140 = .ok (.sipush 320, 3) := z_dd_17 (by decide +kernel)
theorem dX12_init_143 : decode cX12_init 143 = .ok (.newarray .int, 2) := z_dd_188_int (by decide +kernel)
theorem dX12_init_145 : decode cX12_init 145 = .ok (.putfield 58, 3) := z_dd_181 (by decide +kernel)
theorem dX12_init_148 : decode cX12_init 148 = .ok (.aload_n 0, 1) := z_dd_42 (by decide +kernel)
theorem dX12_init_149 : decode cX12_init 149 = .ok (.sipush 320, 3) := z_dd_17 (by decide +kernel)
theorem dX12_init_152 : decode cX12_init 152 = .ok (.newarray .int, 2) := z_dd_188_int (by decide +kernel)
theorem dX12_init_154 : decode cX12_init 154 = .ok (.putfield 61, 3) := z_dd_181 (by decide +kernel)
theorem dX12_init_157 : decode cX12_init 157 = .ok (.aload_n 0, 1) := z_dd_42 (by decide +kernel)
theorem dX12_init_158 : decode cX12_init 158 = .ok (.sipush 320, 3) := z_dd_17 (by decide +kernel)
theorem dX12_init_161 : decode cX12_init 161 = .ok (.newarray .int, 2) := z_dd_188_int (by decide +kernel)
theorem dX12_init_163 : decode cX12_init 163 = .ok (.putfield 64, 3) := z_dd_181 (by decide +kernel)
theorem dX12_init_166 : decode cX12_init 166 = .ok (.aload_n 0, 1) := z_dd_42 (by decide +kernel)
theorem dX12_init_167 : decode cX12_init 167 = .ok (.sipush 320, 3) := z_dd_17 (by decide +kernel)
theorem dX12_init_170 : decode cX12_init 170 = .ok (.newarray .int, 2) := z_dd_188_int (by decide +kernel)
theorem dX12_init_172 : decode cX12_init 172 = .ok (.putfield 67, 3) := z_dd_181 (by decide +kernel)
theorem dX12_init_175 : decode cX12_init 175 = .ok (.aload_n 0, 1) := z_dd_42 (by decide +kernel)
theorem dX12_init_176 : decode cX12_init 176 = .ok (.sipush 6200, 3) := z_dd_17 (by decide +kernel)
theorem dX12_init_179 : decode cX12_init 179 = .ok (.newarray .int, 2) := z_dd_188_int (by decide +kernel)
theorem dX12_init_181 : decode cX12_init 181 = .ok (.putfield 70, 3) := z_dd_181 (by decide +kernel)
theorem dX12_init_184 : decode cX12_init 184 = .ok (.aload_n 0, 1) := z_dd_42 (by decide +kernel)
theorem dX12_init_185 : decode cX12_init 185 = .ok (.sipush 6200, 3) := z_dd_17 (by decide +kernel)
theorem dX12_init_188 : decode cX12_init 188 = .ok (.newarray .int, 2) := z_dd_188_int (by decide +kernel)
theorem dX12_init_190 : decode cX12_init 190 = .ok (.putfield 73, 3) := z_dd_181 (by decide +kernel)
theorem dX12_init_193 : decode cX12_init 193 = .ok (.aload_n 0, 1) := z_dd_42 (by decide +kernel)
theorem dX12_init_194 : decode cX12_init 194 = .ok (.sipush 6200, 3) := z_dd_17 (by decide +kernel)
theorem dX12_init_197 : decode cX12_init 197 = .ok (.newarray .int, 2) := z_dd_188_int (by decide +kernel)
theorem dX12_init_199 : decode cX12_init 199 = .ok (.putfield 76, 3) := z_dd_181 (by decide +kernel)
theorem dX12_init_202 : decode cX12_init 202 = .ok (.aload_n 0, 1) := z_dd_42 (by decide +kernel)
theorem dX12_init_203 : decode cX12_init 203 = .ok (.sipush 6200, 3) := z_dd_17 (by decide +kernel)
theorem dX12_init_206 : decode cX12_init 206 = .ok (.newarray .long, 2) := z_dd_188_long (by decide +kernel)
theorem dX12_init_208 : decode cX12_init 208 = .ok (.putfield 79, 3) := z_dd_181 (by decide +kernel)
theorem dX12_init_211 : decode cX12_init 211 = .ok (.aload_n 0, 1) := z_dd_42 (by decide +kernel)
theorem dX12_init_212 : decode cX12_init 212 = .ok (.sipush 500, 3) := z_dd_17 (by decide +kernel)
theorem dX12_init_215 : decode cX12_init 215 = .ok (.newarray .byte, 2) := z_dd_188_byte (by decide +kernel)
theorem dX12_init_217 : decode cX12_init 217 = .ok (.putfield 83, 3) := z_dd_181 (by decide +kernel)
theorem dX12_init_220 : decode cX12_init 220 = .ok (.aload_n 0, 1) := z_dd_42 (by decide +kernel)
theorem dX12_init_221 : decode cX12_init 221 = .ok (.iconst (-1), 1) := z_dd_2 (by decide +kernel)
theorem dX12_init_222 : decode cX12_init 222 = .ok (.putfield 87, 3) := z_dd_181 (by decide +kernel)
theorem dX12_init_225 : decode cX12_init 225 = .ok (.aload_n 0, 1) := z_dd_42 (by decide +kernel)
theorem dX12_init_226 : decode cX12_init 226 = .ok (.bipush 120, 2) := z_dd_16 (by decide +kernel)
theorem dX12_init_228 : decode cX12_init 228 = .ok (.newarray .int, 2) := z_dd_188_int (by decide +kernel)
theorem dX12_init_230 : decode cX12_init 230 = .ok (.putfield 91, 3) := z_dd_181 (by decide +kernel)
theorem dX12_init_233 : decode cX12_init 233 = .ok (.aload_n 0, 1) := z_dd_42 (by decide +kernel)
theorem dX12_init_234 : decode cX12_init 234 = .ok (.bipush 120, 2) := z_dd_16 (by decide +kernel)
theorem dX12_init_236 : decode cX12_init 236 = .ok (.newarray .int, 2) := z_dd_188_int (by decide +kernel)
theorem dX12_init_238 : decode cX12_init 238 = .ok (.putfield 94, 3) := z_dd_181 (by decide +kernel)
theorem dX12_init_241 : decode cX12_init 241 = .ok (.aload_n 0, 1) := z_dd_42 (by decide +kernel)
theorem dX12_init_242 : decode cX12_init 242 = .ok (.bipush 120, 2) := z_dd_16 (by decide +kernel)
theorem dX12_init_244 : decode cX12_init 244 = .ok (.newarray .int, 2) := z_dd_188_int (by decide +kernel)
theorem dX12_init_246 : decode cX12_init 246 = .ok (.putfield 97, 3) := z_dd_181 (by decide +kernel)
theorem dX12_init_249 : decode cX12_init 249 = .ok (.aload_n 0, 1) := z_dd_42 (by decide +kernel)
theorem dX12_init_250 : decode cX12_init 250 = .ok (.bipush 120, 2) := z_dd_16 (by decide +kernel)
theorem dX12_init_252 : decode cX12_init 252 = .ok (.newarray .int, 2) := z_dd_188_int (by decide +kernel)
theorem dX12_init_254 : decode cX12_init 254 = .ok (.putfield 100, 3) := z_dd_181 (by decide +kernel)
theorem dX12_init_257 : decode cX12_init 257 = .ok (.aload_n 0, 1) := z_dd_42 (by decide +kernel)
theorem dX12_init_258 : decode cX12_init 258 = .ok (.bipush 7, 2) := z_dd_16 (by decide +kernel)
theorem dX12_init_260 : decode cX12_init 260 = .ok (.newarray .long, 2) := z_dd_188_long (by decide +kernel)
theorem dX12_init_262 : decode cX12_init 262 = .ok (.putfield 103, 3) := z_dd_181 (by decide +kernel)
theorem dX12_init_265 : decode cX12_init 265 = .ok (.aload_n 0, 1) := z_dd_42 (by decide +kernel)
theorem dX12_init_266 : decode cX12_init 266 = .ok (.sipush 720, 3) := z_dd_17 (by decide +kernel)
theorem dX12_init_269 : decode cX12_init 269 = .ok (.newarray .int, 2) := z_dd_188_int (by decide +kernel)
theorem dX12_init_271 : decode cX12_init 271 = .ok (.putfield 106, 3) := z_dd_181 (by decide +kernel)
theorem dX12_init_274 : decode cX12_init 274 = .ok (.aload_n 0, 1) := z_dd_42 (by decide +kernel)
theorem dX12_init_275 : decode cX12_init 275 = .ok (.ldc 109, 2) := z_dd_18 (by decide +kernel)
theorem dX12_init_277 : decode cX12_init 277 = .ok (.newarray .int, 2) := z_dd_188_int (by decide +kernel)
theorem dX12_init_279 : decode cX12_init 279 = .ok (.putfield 110, 3) := z_dd_181 (by decide +kernel)
theorem dX12_init_282 : decode cX12_init 282 = .ok (.aload_n 0, 1) := z_dd_42 (by decide +kernel)
theorem dX12_init_283 : decode cX12_init 283 = .ok (.ldc 113, 2) := z_dd_18 (by decide +kernel)
theorem dX12_init_285 : decode cX12_init 285 = .ok (.newarray .boolean, 2) := z_dd_188_boolean (by decide +kernel)
theorem dX12_init_287 : decode cX12_init 287 = .ok (.putfield 114, 3) := z_dd_181 (by decide +kernel)
theorem dX12_init_290 : decode cX12_init 290 = .ok (.aload_n 0, 1) := z_dd_42 (by decide +kernel)
theorem dX12_init_291 : decode cX12_init 291 = .ok (.sipush 300, 3) := z_dd_17 (by decide +kernel)
theorem dX12_init_294 : decode cX12_init 294 = .ok (.newarray .int, 2) := z_dd_188_int (by decide +kernel)
theorem dX12_init_296 : decode cX12_init 296 = .ok (.putfield 118, 3) := z_dd_181 (by decide +kernel)
theorem dX12_init_299 : decode cX12_init 299 = .ok (.aload_n 0, 1) := z_dd_42 (by decide +kernel)
theorem dX12_init_300 : decode cX12_init 300 = .ok (.sipush 300, 3) := z_dd_17 (by decide +kernel)
theorem dX12_init_303 : decode cX12_init 303 = .ok (.newarray .int, 2) := z_dd_188_int (by decide +kernel)
theorem dX12_init_305 : decode cX12_init 305 = .ok (.putfield 121, 3) := z_dd_181 (by decide +kernel)
theorem dX12_init_308 : decode cX12_init 308 = .ok (.aload_n 0, 1) := z_dd_42 (by decide +kernel)
theorem dX12_init_309 : decode cX12_init 309 = .ok (.sipush 300, 3) := z_dd_17 (by decide +kernel)
theorem dX12_init_312 : decode cX12_init 312 = .ok (.newarray .int, 2) := z_dd_188_int (by decide +kernel)
theorem dX12_init_314 : decode cX12_init 314 = .ok (.putfield 124, 3) := z_dd_181 (by decide +kernel)
theorem dX12_init_317 : decode cX12_init 317 = .ok (.aload_n 0, 1) := z_dd_42 (by decide +kernel)
theorem dX12_init_318 : decode cX12_init 318 = .ok (.sipush 300, 3) := z_dd_17 (by decide +kernel)
theorem dX12_init_321 : decode cX12_init 321 = .ok (.newarray .int, 2) := z_dd_188_int (by decide +kernel)
theorem dX12_init_323 : decode cX12_init 323 = .ok (.putfield 127, 3) := z_dd_181 (by decide +kernel)
theorem dX12_init_326 : decode cX12_init 326 = .ok (.aload_n 0, 1) := z_dd_42 (by decide +kernel)
theorem dX12_init_327 : decode cX12_init 327 = .ok (.sipush 300, 3) := z_dd_17 (by decide +kernel)
theorem dX12_init_330 : decode cX12_init 330 = .ok (.newarray .int, 2) := z_dd_188_int (by decide +kernel)
theorem dX12_init_332 : decode cX12_init 332 = .ok (.putfield 130, 3) := z_dd_181 (by decide +kernel)
theorem dX12_init_335 : decode cX12_init 335 = .ok (.aload_n 0, 1) := z_dd_42 (by decide +kernel)
theorem dX12_init_336 : decode cX12_init 336 = .ok (.sipush 300, 3) := z_dd_17 (by decide +kernel)
theorem dX12_init_339 : decode cX12_init 339 = .ok (.newarray .int, 2) := z_dd_188_int (by decide +kernel)
theorem dX12_init_341 : decode cX12_init 341 = .ok (.putfield 133, 3) := z_dd_181 (by decide +kernel)
theorem dX12_init_344 : decode cX12_init 344 = .ok (.aload_n 0, 1) := z_dd_42 (by decide +kernel)
theorem dX12_init_345 : decode cX12_init 345 = .ok (.sipush 300, 3) := z_dd_17 (by decide +kernel)
theorem dX12_init_348 : decode cX12_init 348 = .ok (.newarray .int, 2) := z_dd_188_int (by decide +kernel)
theorem dX12_init_350 : decode cX12_init 350 = .ok (.putfield 136, 3) := z_dd_181 (by decide +kernel)
theorem dX12_init_353 : decode cX12_init 353 = .ok (.aload_n 0, 1) := z_dd_42 (by decide +kernel)
theorem dX12_init_354 : decode cX12_init 354 = .ok (.sipush 300, 3) := z_dd_17 (by decide +kernel)
theorem dX12_init_357 : decode cX12_init 357 = .ok (.newarray .int, 2) := z_dd_188_int (by decide +kernel)
theorem dX12_init_359 : decode cX12_init 359 = .ok (.putfield 139, 3) := z_dd_181 (by decide +kernel)
theorem dX12_init_362 : decode cX12_init 362 = .ok (.aload_n 0, 1) := z_dd_42 (by decide +kernel)
theorem dX12_init_363 : decode cX12_init 363 = .ok (.sipush 300, 3) := z_dd_17 (by decide +kernel)
theorem dX12_init_366 : decode cX12_init 366 = .ok (.newarray .boolean, 2) := z_dd_188_boolean (by decide +kernel)
theorem dX12_init_368 : decode cX12_init 368 = .ok (.putfield 142, 3) := z_dd_181 (by decide +kernel)
theorem dX12_init_371 : decode cX12_init 371 = .ok (.aload_n 0, 1) := z_dd_42 (by decide +kernel)
theorem dX12_init_372 : decode cX12_init 372 = .ok (.bipush 10, 2) := z_dd_16 (by decide +kernel)
theorem dX12_init_374 : decode cX12_init 374 = .ok (.newarray .int, 2) := z_dd_188_int (by decide +kernel)
theorem dX12_init_376 : decode cX12_init 376 = .ok (.putfield 145, 3) := z_dd_181 (by decide +kernel)
theorem dX12_init_379 : decode cX12_init 379 = .ok (.aload_n 0, 1) := z_dd_42 (by decide +kernel)
theorem dX12_init_380 : decode cX12_init 380 = .ok (.bipush 10, 2) := z_dd_16 (by decide +kernel)
theorem dX12_init_382 : decode cX12_init 382 = .ok (.newarray .int, 2) := z_dd_188_int (by decide +kernel)
theorem dX12_init_384 : decode cX12_init 384 = .ok (.putfield 148, 3) := z_dd_181 (by decide +kernel)
theorem dX12_init_387 : decode cX12_init 387 = .ok (.aload_n 0, 1) := z_dd_42 (by decide +kernel)
theorem dX12_init_388 : decode cX12_init 388 = .ok (.sipush 300, 3) := z_dd_17 (by decide +kernel)
theorem dX12_init_391 : decode cX12_init 391 = .ok (.newarray .int, 2) := z_dd_188_int (by decide +kernel)
theorem dX12_init_393 : decode cX12_init 393 = .ok (.putfield 151, 3) := z_dd_181 (by decide +kernel)
theorem dX12_init_396 : decode cX12_init 396 = .ok (.aload_n 0, 1) := z_dd_42 (by decide +kernel)
theorem dX12_init_397 : decode cX12_init 397 = .ok (.sipush 300, 3) := z_dd_17 (by decide +kernel)
theorem dX12_init_400 : decode cX12_init 400 = .ok (.newarray .int, 2) := z_dd_188_int (by decide +kernel)
theorem dX12_init_402 : decode cX12_init 402 = .ok (.putfield 154, 3) := z_dd_181 (by decide +kernel)
theorem dX12_init_405 : decode cX12_init 405 = .ok (.aload_n 0, 1) := z_dd_42 (by decide +kernel)
theorem dX12_init_406 : decode cX12_init 406 = .ok (.bipush 10, 2) := z_dd_16 (by decide +kernel)
theorem dX12_init_408 : decode cX12_init 408 = .ok (.newarray .int, 2) := z_dd_188_int (by decide +kernel)
theorem dX12_init_410 : decode cX12_init 410 = .ok (.putfield 157, 3) := z_dd_181 (by decide +kernel)
theorem dX12_init_413 : decode cX12_init 413 = .ok (.aload_n 0, 1) := z_dd_42 (by decide +kernel)
theorem dX12_init_414 : decode cX12_init 414 = .ok (.sipush 300, 3) := z_dd_17 (by decide +kernel)
theorem dX12_init_417 : decode cX12_init 417 = .ok (.newarray .int, 2) := z_dd_188_int (by decide +kernel)
theorem dX12_init_419 : decode cX12_init 419 = .ok (.putfield 160, 3) := z_dd_181 (by decide +kernel)
theorem dX12_init_422 : decode cX12_init 422 = .ok (.aload_n 0, 1) := z_dd_42 (by decide +kernel)
theorem dX12_init_423 : decode cX12_init 423 = .ok (.sipush 300, 3) := z_dd_17 (by decide +kernel)
theorem dX12_init_426 : decode cX12_init 426 = .ok (.newarray .int, 2) := z_dd_188_int (by decide +kernel)
theorem dX12_init_428 : decode cX12_init 428 = .ok (.putfield 163, 3) := z_dd_181 (by decide +kernel)
theorem dX12_init_431 : decode cX12_init 431 = .ok (.aload_n 0, 1) := z_dd_42 (by decide +kernel)
theorem dX12_init_432 : decode cX12_init 432 = .ok (.sipush 300, 3) := z_dd_17 (by decide +kernel)
theorem dX12_init_435 : decode cX12_init 435 = .ok (.newarray .int, 2) := z_dd_188_int (by decide +kernel)
theorem dX12_init_437 : decode cX12_init 437 = .ok (.putfield 166, 3) := z_dd_181 (by decide +kernel)
theorem dX12_init_440 : decode cX12_init 440 = .ok (.aload_n 0, 1) := z_dd_42 (by decide +kernel)
theorem dX12_init_441 : decode cX12_init 441 = .ok (.bipush 30, 2) := z_dd_16 (by decide +kernel)
theorem dX12_init_443 : decode cX12_init 443 = .ok (.newarray .int, 2) := z_dd_188_int (by decide +kernel)
theorem dX12_init_445 : decode cX12_init 445 = .ok (.putfield 169, 3) := z_dd_181 (by decide +kernel)
theorem dX12_init_448 : decode cX12_init 448 = .ok (.aload_n 0, 1) := z_dd_42 (by decide +kernel)
theorem dX12_init_449 : decode cX12_init 449 = .ok (.iconst 4, 1) := z_dd_7 (by decide +kernel)
theorem dX12_init_450 : decode cX12_init 450 = .ok (.newarray .int, 2) := z_dd_188_int (by decide +kernel)
theorem dX12_init_452 : decode cX12_init 452 = .ok (.putfield 172, 3) := z_dd_181 (by decide +kernel)
theorem dX12_init_455 : decode cX12_init 455 = .ok (.aload_n 0, 1) := z_dd_42 (by decide +kernel)
theorem dX12_init_456 : decode cX12_init 456 = .ok (.bipush 10, 2) := z_dd_16 (by decide +kernel)
theorem dX12_init_458 : decode cX12_init 458 = .ok (.newarray .int, 2) := z_dd_188_int (by decide +kernel)
theorem dX12_init_460 : decode cX12_init 460 = .ok (.putfield 175, 3) := z_dd_181 (by decide +kernel)
theorem dX12_init_463 : decode cX12_init 463 = .ok (.aload_n 0, 1) := z_dd_42 (by decide +kernel)
theorem dX12_init_464 : decode cX12_init 464 = .ok (.bipush 40, 2) := z_dd_16 (by decide +kernel)
theorem dX12_init_466 : decode cX12_init 466 = .ok (.newarray .int, 2) := z_dd_188_int (by decide +kernel)
theorem dX12_init_468 : decode cX12_init 468 = .ok (.putfield 178, 3) := z_dd_181 (by decide +kernel)
theorem dX12_init_471 : decode cX12_init 471 = .ok (.aload_n 0, 1) := z_dd_42 (by decide +kernel)
theorem dX12_init_472 : decode cX12_init 472 = .ok (.sipush 256, 3) := z_dd_17 (by decide +kernel)
theorem dX12_init_475 : decode cX12_init 475 = .ok (.newarray .int, 2) := z_dd_188_int (by decide +kernel)
theorem dX12_init_477 : decode cX12_init 477 = .ok (.putfield 181, 3) := z_dd_181 (by decide +kernel)
theorem dX12_init_480 : decode cX12_init 480 = .ok (.aload_n 0, 1) := z_dd_42 (by decide +kernel)
theorem dX12_init_481 : decode cX12_init 481 = .ok (.sipush 256, 3) := z_dd_17 (by decide +kernel)
theorem dX12_init_484 : decode cX12_init 484 = .ok (.newarray .int, 2) := z_dd_188_int (by decide +kernel)
theorem dX12_init_486 : decode cX12_init 486 = .ok (.putfield 184, 3) := z_dd_181 (by decide +kernel)
theorem dX12_init_489 : decode cX12_init 489 = .ok (.aload_n 0, 1) := z_dd_42 (by decide +kernel)
theorem dX12_init_490 : decode cX12_init 490 = .ok (.bipush 16, 2) := z_dd_16 (by decide +kernel)
theorem dX12_init_492 : decode cX12_init 492 = .ok (.newarray .int, 2) := z_dd_188_int (by decide +kernel)
theorem dX12_init_494 : decode cX12_init 494 = .ok (.putfield 187, 3) := z_dd_181 (by decide +kernel)
theorem dX12_init_497 : decode cX12_init 497 = .ok (.aload_n 0, 1) := z_dd_42 (by decide +kernel)
theorem dX12_init_498 : decode cX12_init 498 = .ok (.bipush 16, 2) := z_dd_16 (by decide +kernel)
theorem dX12_init_500 : decode cX12_init 500 = .ok (.newarray .int, 2) := z_dd_188_int (by decide +kernel)
theorem dX12_init_502 : decode cX12_init 502 = .ok (.putfield 190, 3) := z_dd_181 (by decide +kernel)
theorem dX12_init_505 : decode cX12_init 505 = .ok (.aload_n 0, 1) := z_dd_42 (by decide +kernel)
theorem dX12_init_506 : decode cX12_init 506 = .ok (.bipush 60, 2) := z_dd_16 (by decide +kernel)
theorem dX12_init_508 : decode cX12_init 508 = .ok (.newarray .int, 2) := z_dd_188_int (by decide +kernel)
theorem dX12_init_510 : decode cX12_init 510 = .ok (.putfield 193, 3) := z_dd_181 (by decide +kernel)
theorem dX12_init_513 : decode cX12_init 513 = .ok (.aload_n 0, 1) := z_dd_42 (by decide +kernel)
theorem dX12_init_514 : decode cX12_init 514 = .ok (.bipush 60, 2) := z_dd_16 (by decide +kernel)
theorem dX12_init_516 : decode cX12_init 516 = .ok (.newarray .int, 2) := z_dd_188_int (by decide +kernel)
theorem dX12_init_518 : decode cX12_init 518 = .ok (.putfield 196, 3) := z_dd_181 (by decide +kernel)
theorem dX12_init_521 : decode cX12_init 521 = .ok (.aload_n 0, 1) := z_dd_42 (by decide +kernel)
theorem dX12_init_522 : decode cX12_init 522 = .ok (.bipush 60, 2) := z_dd_16 (by decide +kernel)
theorem dX12_init_524 : decode cX12_init 524 = .ok (.newarray .int, 2) := z_dd_188_int (by decide +kernel)
theorem dX12_init_526 : decode cX12_init 526 = .ok (.putfield 199, 3) := z_dd_181 (by decide +kernel)
theorem dX12_init_529 : decode cX12_init 529 = .ok (.aload_n 0, 1) := z_dd_42 (by decide +kernel)
theorem dX12_init_530 : decode cX12_init 530 = .ok (.bipush 60, 2) := z_dd_16 (by decide +kernel)
theorem dX12_init_532 : decode cX12_init 532 = .ok (.newarray .int, 2) := z_dd_188_int (by decide +kernel)
theorem dX12_init_534 : decode cX12_init 534 = .ok (.putfield 202, 3) := z_dd_181 (by decide +kernel)
theorem dX12_init_537 : decode cX12_init 537 = .ok (.aload_n 0, 1) := z_dd_42 (by decide +kernel)
theorem dX12_init_538 : decode cX12_init 538 = .ok (.bipush 60, 2) := z_dd_16 (by decide +kernel)
theorem dX12_init_540 : decode cX12_init 540 = .ok (.newarray .int, 2) := z_dd_188_int (by decide +kernel)
theorem dX12_init_542 : decode cX12_init 542 = .ok (.putfield 205, 3) := z_dd_181 (by decide +kernel)
theorem dX12_init_545 : decode cX12_init 545 = .ok (.aload_n 0, 1) := z_dd_42 (by decide +kernel)
theorem dX12_init_546 : decode cX12_init 546 = .ok (.bipush 60, 2) := z_dd_16 (by decide +kernel)
theorem dX12_init_548 : decode cX12_init 548 = .ok (.newarray .int, 2) := z_dd_188_int (by decide +kernel)
theorem dX12_init_550 : decode cX12_init 550 = .ok (.putfield 208, 3) := z_dd_181 (by decide +kernel)
theorem dX12_init_553 : decode cX12_init 553 = .ok (.aload_n 0, 1) := z_dd_42 (by decide +kernel)
theorem dX12_init_554 : decode cX12_init 554 = .ok (.bipush 60, 2) := z_dd_16 (by decide +kernel)
theorem dX12_init_556 : decode cX12_init 556 = .ok (.newarray .int, 2) := z_dd_188_int (by decide +kernel)
theorem dX12_init_558 : decode cX12_init 558 = .ok (.putfield 211, 3) := z_dd_181 (by decide +kernel)
theorem dX12_init_561 : decode cX12_init 561 = .ok (.aload_n 0, 1) := z_dd_42 (by decide +kernel)
theorem dX12_init_562 : decode cX12_init 562 = .ok (.bipush 60, 2) := z_dd_16 (by decide +kernel)
theorem dX12_init_564 : decode cX12_init 564 = .ok (.newarray .int, 2) := z_dd_188_int (by decide +kernel)
theorem dX12_init_566 : decode cX12_init 566 = .ok (.putfield 214, 3) := z_dd_181 (by decide +kernel)
theorem dX12_init_569 : decode cX12_init 569 = .ok (.aload_n 0, 1) := z_dd_42 (by decide +kernel)
theorem dX12_init_570 : decode cX12_init 570 = .ok (.bipush 60, 2) := z_dd_16 (by decide +kernel)
theorem dX12_init_572 : decode cX12_init 572 = .ok (.newarray .int, 2) := z_dd_188_int (by decide +kernel)
theorem dX12_init_574 : decode cX12_init 574 = .ok (.putfield 217, 3) := z_dd_181 (by decide +kernel)
theorem dX12_init_577 : decode cX12_init 577 = .ok (.aload_n 0, 1) := z_dd_42 (by decide +kernel)
theorem dX12_init_578 : decode cX12_init 578 = .ok (.bipush 12, 2) := z_dd_16 (by decide +kernel)
theorem dX12_init_580 : decode cX12_init 580 = .ok (.newarray .int, 2) := z_dd_188_int (by decide +kernel)
theorem dX12_init_582 : decode cX12_init 582 = .ok (.putfield 220, 3) := z_dd_181 (by decide +kernel)
theorem dX12_init_585 : decode cX12_init 585 = .ok (.aload_n 0, 1) := z_dd_42 (by decide +kernel)
theorem dX12_init_586 : decode cX12_init 586 = .ok (.bipush 30, 2) := z_dd_16 (by decide +kernel)
theorem dX12_init_588 : decode cX12_init 588 = .ok (.newarray .int, 2) := z_dd_188_int (by decide +kernel)
theorem dX12_init_590 : decode cX12_init 590 = .ok (.putfield 223, 3) := z_dd_181 (by decide +kernel)
theorem dX12_init_593 : decode cX12_init 593 = .ok (.aload_n 0, 1) := z_dd_42 (by decide +kernel)
theorem dX12_init_594 : decode cX12_init 594 = .ok (.bipush 30, 2) := z_dd_16 (by decide +kernel)
theorem dX12_init_596 : decode cX12_init 596 = .ok (.newarray .boolean, 2) := z_dd_188_boolean (by decide +kernel)
theorem dX12_init_598 : decode cX12_init 598 = .ok (.putfield 226, 3) := z_dd_181 (by decide +kernel)
theorem dX12_init_601 : decode cX12_init 601 = .ok (.return_, 1) := z_dd_177 (by decide +kernel)
/-- no long is told yet -/
noncomputable def z_J0 : z_J := fun _ _ => 0
noncomputable def shM0 : Nat → Option z_S := z_sh (fun _ => none) 0 (.inr 12)
noncomputable def PM0 (ad : Nat → Nat) : z_P := fun _ _ => none
noncomputable def IM0 : z_I := fun _ _ => 0
noncomputable def shSM1 : Nat → Option z_S := z_sh shM0 1 (.inl (.int, 30))
theorem hs_shSM1_0 : shSM1 0 = some (.inr 12) := rfl
noncomputable def PSM2 (ad : Nat → Nat) : z_P := z_up (PM0 ad) 0 3 (some (ad 1))
noncomputable def shSM3 : Nat → Option z_S := z_sh shSM1 2 (.inl (.int, 30))
theorem hs_shSM3_0 : shSM3 0 = some (.inr 12) := hs_shSM1_0
noncomputable def PSM4 (ad : Nat → Nat) : z_P := z_up (PSM2 ad) 0 4 (some (ad 2))
noncomputable def shSM5 : Nat → Option z_S := z_sh shSM3 3 (.inl (.int, 30))
theorem hs_shSM5_0 : shSM5 0 = some (.inr 12) := hs_shSM3_0
noncomputable def PSM6 (ad : Nat → Nat) : z_P := z_up (PSM4 ad) 0 5 (some (ad 3))
noncomputable def shSM7 : Nat → Option z_S := z_sh shSM5 4 (.inl (.int, 30))
theorem hs_shSM7_0 : shSM7 0 = some (.inr 12) := hs_shSM5_0
noncomputable def PSM8 (ad : Nat → Nat) : z_P := z_up (PSM6 ad) 0 6 (some (ad 4))
noncomputable def shSM9 : Nat → Option z_S := z_sh shSM7 5 (.inl (.int, 30))
theorem hs_shSM9_0 : shSM9 0 = some (.inr 12) := hs_shSM7_0
noncomputable def PSM10 (ad : Nat → Nat) : z_P := z_up (PSM8 ad) 0 7 (some (ad 5))
noncomputable def shSM11 : Nat → Option z_S := z_sh shSM9 6 (.inl (.int, 200))
theorem hs_shSM11_0 : shSM11 0 = some (.inr 12) := hs_shSM9_0
noncomputable def PSM12 (ad : Nat → Nat) : z_P := z_up (PSM10 ad) 0 8 (some (ad 6))
noncomputable def shSM13 : Nat → Option z_S := z_sh shSM11 7 (.inl (.int, 200))
theorem hs_shSM13_0 : shSM13 0 = some (.inr 12) := hs_shSM11_0
noncomputable def PSM14 (ad : Nat → Nat) : z_P := z_up (PSM12 ad) 0 9 (some (ad 7))
noncomputable def shSM15 : Nat → Option z_S := z_sh shSM13 8 (.inl (.int, 200))
theorem hs_shSM15_0 : shSM15 0 = some (.inr 12) := hs_shSM13_0
noncomputable def PSM16 (ad : Nat → Nat) : z_P := z_up (PSM14 ad) 0 10 (some (ad 8))
noncomputable def shSM17 : Nat → Option z_S := z_sh shSM15 9 (.inl (.int, 200))
theorem hs_shSM17_0 : shSM17 0 = some (.inr 12) := hs_shSM15_0
noncomputable def PSM18 (ad : Nat → Nat) : z_P := z_up (PSM16 ad) 0 11 (some (ad 9))
noncomputable def shSM19 : Nat → Option z_S := z_sh shSM17 10 (.inl (.int, 200))
theorem hs_shSM19_0 : shSM19 0 = some (.inr 12) := hs_shSM17_0
noncomputable def PSM20 (ad : Nat → Nat) : z_P := z_up (PSM18 ad) 0 12 (some (ad 10))
noncomputable def shSM21 : Nat → Option z_S := z_sh shSM19 11 (.inl (.int, 12))
theorem hs_shSM21_0 : shSM21 0 = some (.inr 12) := hs_shSM19_0
noncomputable def PSM22 (ad : Nat → Nat) : z_P := z_up (PSM20 ad) 0 16 (some (ad 11))
noncomputable def shSM23 : Nat → Option z_S := z_sh shSM21 12 (.inl (.int, 12))
theorem hs_shSM23_0 : shSM23 0 = some (.inr 12) := hs_shSM21_0
noncomputable def PSM24 (ad : Nat → Nat) : z_P := z_up (PSM22 ad) 0 17 (some (ad 12))
noncomputable def shSM25 : Nat → Option z_S := z_sh shSM23 13 (.inl (.int, 12))
theorem hs_shSM25_0 : shSM25 0 = some (.inr 12) := hs_shSM23_0
noncomputable def PSM26 (ad : Nat → Nat) : z_P := z_up (PSM24 ad) 0 18 (some (ad 13))
noncomputable def shSM27 : Nat → Option z_S := z_sh shSM25 14 (.inl (.int, 12))
theorem hs_shSM27_0 : shSM27 0 = some (.inr 12) := hs_shSM25_0
noncomputable def PSM28 (ad : Nat → Nat) : z_P := z_up (PSM26 ad) 0 19 (some (ad 14))
noncomputable def shSM29 : Nat → Option z_S := z_sh shSM27 15 (.inl (.int, 320))
theorem hs_shSM29_0 : shSM29 0 = some (.inr 12) := hs_shSM27_0
noncomputable def PSM30 (ad : Nat → Nat) : z_P := z_up (PSM28 ad) 0 20 (some (ad 15))
noncomputable def shSM31 : Nat → Option z_S := z_sh shSM29 16 (.inl (.int, 320))
theorem hs_shSM31_0 : shSM31 0 = some (.inr 12) := hs_shSM29_0
noncomputable def PSM32 (ad : Nat → Nat) : z_P := z_up (PSM30 ad) 0 21 (some (ad 16))
noncomputable def shSM33 : Nat → Option z_S := z_sh shSM31 17 (.inl (.int, 320))
theorem hs_shSM33_0 : shSM33 0 = some (.inr 12) := hs_shSM31_0
noncomputable def PSM34 (ad : Nat → Nat) : z_P := z_up (PSM32 ad) 0 22 (some (ad 17))
noncomputable def shSM35 : Nat → Option z_S := z_sh shSM33 18 (.inl (.int, 320))
theorem hs_shSM35_0 : shSM35 0 = some (.inr 12) := hs_shSM33_0
noncomputable def PSM36 (ad : Nat → Nat) : z_P := z_up (PSM34 ad) 0 23 (some (ad 18))
noncomputable def shSM37 : Nat → Option z_S := z_sh shSM35 19 (.inl (.int, 320))
theorem hs_shSM37_0 : shSM37 0 = some (.inr 12) := hs_shSM35_0
noncomputable def PSM38 (ad : Nat → Nat) : z_P := z_up (PSM36 ad) 0 24 (some (ad 19))
noncomputable def shSM39 : Nat → Option z_S := z_sh shSM37 20 (.inl (.int, 320))
theorem hs_shSM39_0 : shSM39 0 = some (.inr 12) := hs_shSM37_0
noncomputable def PSM40 (ad : Nat → Nat) : z_P := z_up (PSM38 ad) 0 25 (some (ad 20))
noncomputable def shSM41 : Nat → Option z_S := z_sh shSM39 21 (.inl (.int, 6200))
theorem hs_shSM41_0 : shSM41 0 = some (.inr 12) := hs_shSM39_0
noncomputable def PSM42 (ad : Nat → Nat) : z_P := z_up (PSM40 ad) 0 26 (some (ad 21))
noncomputable def shSM43 : Nat → Option z_S := z_sh shSM41 22 (.inl (.int, 6200))
theorem hs_shSM43_0 : shSM43 0 = some (.inr 12) := hs_shSM41_0
noncomputable def PSM44 (ad : Nat → Nat) : z_P := z_up (PSM42 ad) 0 27 (some (ad 22))
noncomputable def shSM45 : Nat → Option z_S := z_sh shSM43 23 (.inl (.int, 6200))
theorem hs_shSM45_0 : shSM45 0 = some (.inr 12) := hs_shSM43_0
noncomputable def PSM46 (ad : Nat → Nat) : z_P := z_up (PSM44 ad) 0 28 (some (ad 23))
noncomputable def shSM47 : Nat → Option z_S := z_sh shSM45 24 (.inl (.long, 6200))
theorem hs_shSM47_0 : shSM47 0 = some (.inr 12) := hs_shSM45_0
noncomputable def PSM48 (ad : Nat → Nat) : z_P := z_up (PSM46 ad) 0 29 (some (ad 24))
noncomputable def shSM49 : Nat → Option z_S := z_sh shSM47 25 (.inl (.byte, 500))
theorem hs_shSM49_0 : shSM49 0 = some (.inr 12) := hs_shSM47_0
noncomputable def PSM50 (ad : Nat → Nat) : z_P := z_up (PSM48 ad) 0 30 (some (ad 25))
noncomputable def ISM51 : z_I := z_up IM0 0 32 (-1)
noncomputable def shSM52 : Nat → Option z_S := z_sh shSM49 26 (.inl (.int, 120))
theorem hs_shSM52_0 : shSM52 0 = some (.inr 12) := hs_shSM49_0
noncomputable def PSM53 (ad : Nat → Nat) : z_P := z_up (PSM50 ad) 0 43 (some (ad 26))
noncomputable def shSM54 : Nat → Option z_S := z_sh shSM52 27 (.inl (.int, 120))
theorem hs_shSM54_0 : shSM54 0 = some (.inr 12) := hs_shSM52_0
noncomputable def PSM55 (ad : Nat → Nat) : z_P := z_up (PSM53 ad) 0 44 (some (ad 27))
noncomputable def shSM56 : Nat → Option z_S := z_sh shSM54 28 (.inl (.int, 120))
theorem hs_shSM56_0 : shSM56 0 = some (.inr 12) := hs_shSM54_0
noncomputable def PSM57 (ad : Nat → Nat) : z_P := z_up (PSM55 ad) 0 45 (some (ad 28))
noncomputable def shSM58 : Nat → Option z_S := z_sh shSM56 29 (.inl (.int, 120))
theorem hs_shSM58_0 : shSM58 0 = some (.inr 12) := hs_shSM56_0
noncomputable def PSM59 (ad : Nat → Nat) : z_P := z_up (PSM57 ad) 0 46 (some (ad 29))
noncomputable def shSM60 : Nat → Option z_S := z_sh shSM58 30 (.inl (.long, 7))
theorem hs_shSM60_0 : shSM60 0 = some (.inr 12) := hs_shSM58_0
noncomputable def PSM61 (ad : Nat → Nat) : z_P := z_up (PSM59 ad) 0 48 (some (ad 30))
noncomputable def shSM62 : Nat → Option z_S := z_sh shSM60 31 (.inl (.int, 720))
theorem hs_shSM62_0 : shSM62 0 = some (.inr 12) := hs_shSM60_0
noncomputable def PSM63 (ad : Nat → Nat) : z_P := z_up (PSM61 ad) 0 49 (some (ad 31))
noncomputable def shSM64 : Nat → Option z_S := z_sh shSM62 32 (.inl (.int, 72000))
theorem hs_shSM64_0 : shSM64 0 = some (.inr 12) := hs_shSM62_0
noncomputable def PSM65 (ad : Nat → Nat) : z_P := z_up (PSM63 ad) 0 52 (some (ad 32))
noncomputable def shSM66 : Nat → Option z_S := z_sh shSM64 33 (.inl (.boolean, 100000))
theorem hs_shSM66_0 : shSM66 0 = some (.inr 12) := hs_shSM64_0
noncomputable def PSM67 (ad : Nat → Nat) : z_P := z_up (PSM65 ad) 0 53 (some (ad 33))
noncomputable def shSM68 : Nat → Option z_S := z_sh shSM66 34 (.inl (.int, 300))
theorem hs_shSM68_0 : shSM68 0 = some (.inr 12) := hs_shSM66_0
noncomputable def PSM69 (ad : Nat → Nat) : z_P := z_up (PSM67 ad) 0 57 (some (ad 34))
noncomputable def shSM70 : Nat → Option z_S := z_sh shSM68 35 (.inl (.int, 300))
theorem hs_shSM70_0 : shSM70 0 = some (.inr 12) := hs_shSM68_0
noncomputable def PSM71 (ad : Nat → Nat) : z_P := z_up (PSM69 ad) 0 58 (some (ad 35))
noncomputable def shSM72 : Nat → Option z_S := z_sh shSM70 36 (.inl (.int, 300))
theorem hs_shSM72_0 : shSM72 0 = some (.inr 12) := hs_shSM70_0
noncomputable def PSM73 (ad : Nat → Nat) : z_P := z_up (PSM71 ad) 0 59 (some (ad 36))
noncomputable def shSM74 : Nat → Option z_S := z_sh shSM72 37 (.inl (.int, 300))
theorem hs_shSM74_0 : shSM74 0 = some (.inr 12) := hs_shSM72_0
noncomputable def PSM75 (ad : Nat → Nat) : z_P := z_up (PSM73 ad) 0 60 (some (ad 37))
noncomputable def shSM76 : Nat → Option z_S := z_sh shSM74 38 (.inl (.int, 300))
theorem hs_shSM76_0 : shSM76 0 = some (.inr 12) := hs_shSM74_0
noncomputable def PSM77 (ad : Nat → Nat) : z_P := z_up (PSM75 ad) 0 61 (some (ad 38))
noncomputable def shSM78 : Nat → Option z_S := z_sh shSM76 39 (.inl (.int, 300))
theorem hs_shSM78_0 : shSM78 0 = some (.inr 12) := hs_shSM76_0
noncomputable def PSM79 (ad : Nat → Nat) : z_P := z_up (PSM77 ad) 0 62 (some (ad 39))
noncomputable def shSM80 : Nat → Option z_S := z_sh shSM78 40 (.inl (.int, 300))
theorem hs_shSM80_0 : shSM80 0 = some (.inr 12) := hs_shSM78_0
noncomputable def PSM81 (ad : Nat → Nat) : z_P := z_up (PSM79 ad) 0 63 (some (ad 40))
noncomputable def shSM82 : Nat → Option z_S := z_sh shSM80 41 (.inl (.int, 300))
theorem hs_shSM82_0 : shSM82 0 = some (.inr 12) := hs_shSM80_0
noncomputable def PSM83 (ad : Nat → Nat) : z_P := z_up (PSM81 ad) 0 64 (some (ad 41))
noncomputable def shSM84 : Nat → Option z_S := z_sh shSM82 42 (.inl (.boolean, 300))
theorem hs_shSM84_0 : shSM84 0 = some (.inr 12) := hs_shSM82_0
noncomputable def PSM85 (ad : Nat → Nat) : z_P := z_up (PSM83 ad) 0 65 (some (ad 42))
noncomputable def shSM86 : Nat → Option z_S := z_sh shSM84 43 (.inl (.int, 10))
theorem hs_shSM86_0 : shSM86 0 = some (.inr 12) := hs_shSM84_0
noncomputable def PSM87 (ad : Nat → Nat) : z_P := z_up (PSM85 ad) 0 66 (some (ad 43))
noncomputable def shSM88 : Nat → Option z_S := z_sh shSM86 44 (.inl (.int, 10))
theorem hs_shSM88_0 : shSM88 0 = some (.inr 12) := hs_shSM86_0
noncomputable def PSM89 (ad : Nat → Nat) : z_P := z_up (PSM87 ad) 0 67 (some (ad 44))
noncomputable def shSM90 : Nat → Option z_S := z_sh shSM88 45 (.inl (.int, 300))
theorem hs_shSM90_0 : shSM90 0 = some (.inr 12) := hs_shSM88_0
noncomputable def PSM91 (ad : Nat → Nat) : z_P := z_up (PSM89 ad) 0 68 (some (ad 45))
noncomputable def shSM92 : Nat → Option z_S := z_sh shSM90 46 (.inl (.int, 300))
theorem hs_shSM92_0 : shSM92 0 = some (.inr 12) := hs_shSM90_0
noncomputable def PSM93 (ad : Nat → Nat) : z_P := z_up (PSM91 ad) 0 69 (some (ad 46))
noncomputable def shSM94 : Nat → Option z_S := z_sh shSM92 47 (.inl (.int, 10))
theorem hs_shSM94_0 : shSM94 0 = some (.inr 12) := hs_shSM92_0
noncomputable def PSM95 (ad : Nat → Nat) : z_P := z_up (PSM93 ad) 0 70 (some (ad 47))
noncomputable def shSM96 : Nat → Option z_S := z_sh shSM94 48 (.inl (.int, 300))
theorem hs_shSM96_0 : shSM96 0 = some (.inr 12) := hs_shSM94_0
noncomputable def PSM97 (ad : Nat → Nat) : z_P := z_up (PSM95 ad) 0 71 (some (ad 48))
noncomputable def shSM98 : Nat → Option z_S := z_sh shSM96 49 (.inl (.int, 300))
theorem hs_shSM98_0 : shSM98 0 = some (.inr 12) := hs_shSM96_0
noncomputable def PSM99 (ad : Nat → Nat) : z_P := z_up (PSM97 ad) 0 72 (some (ad 49))
noncomputable def shSM100 : Nat → Option z_S := z_sh shSM98 50 (.inl (.int, 300))
theorem hs_shSM100_0 : shSM100 0 = some (.inr 12) := hs_shSM98_0
noncomputable def PSM101 (ad : Nat → Nat) : z_P := z_up (PSM99 ad) 0 73 (some (ad 50))
noncomputable def shSM102 : Nat → Option z_S := z_sh shSM100 51 (.inl (.int, 30))
theorem hs_shSM102_0 : shSM102 0 = some (.inr 12) := hs_shSM100_0
noncomputable def PSM103 (ad : Nat → Nat) : z_P := z_up (PSM101 ad) 0 74 (some (ad 51))
noncomputable def shSM104 : Nat → Option z_S := z_sh shSM102 52 (.inl (.int, 4))
theorem hs_shSM104_0 : shSM104 0 = some (.inr 12) := hs_shSM102_0
noncomputable def PSM105 (ad : Nat → Nat) : z_P := z_up (PSM103 ad) 0 76 (some (ad 52))
noncomputable def shSM106 : Nat → Option z_S := z_sh shSM104 53 (.inl (.int, 10))
theorem hs_shSM106_0 : shSM106 0 = some (.inr 12) := hs_shSM104_0
noncomputable def PSM107 (ad : Nat → Nat) : z_P := z_up (PSM105 ad) 0 77 (some (ad 53))
noncomputable def shSM108 : Nat → Option z_S := z_sh shSM106 54 (.inl (.int, 40))
theorem hs_shSM108_0 : shSM108 0 = some (.inr 12) := hs_shSM106_0
noncomputable def PSM109 (ad : Nat → Nat) : z_P := z_up (PSM107 ad) 0 78 (some (ad 54))
noncomputable def shSM110 : Nat → Option z_S := z_sh shSM108 55 (.inl (.int, 256))
theorem hs_shSM110_0 : shSM110 0 = some (.inr 12) := hs_shSM108_0
noncomputable def PSM111 (ad : Nat → Nat) : z_P := z_up (PSM109 ad) 0 79 (some (ad 55))
noncomputable def shSM112 : Nat → Option z_S := z_sh shSM110 56 (.inl (.int, 256))
theorem hs_shSM112_0 : shSM112 0 = some (.inr 12) := hs_shSM110_0
noncomputable def PSM113 (ad : Nat → Nat) : z_P := z_up (PSM111 ad) 0 80 (some (ad 56))
noncomputable def shSM114 : Nat → Option z_S := z_sh shSM112 57 (.inl (.int, 16))
theorem hs_shSM114_0 : shSM114 0 = some (.inr 12) := hs_shSM112_0
noncomputable def PSM115 (ad : Nat → Nat) : z_P := z_up (PSM113 ad) 0 81 (some (ad 57))
noncomputable def shSM116 : Nat → Option z_S := z_sh shSM114 58 (.inl (.int, 16))
theorem hs_shSM116_0 : shSM116 0 = some (.inr 12) := hs_shSM114_0
noncomputable def PSM117 (ad : Nat → Nat) : z_P := z_up (PSM115 ad) 0 82 (some (ad 58))
noncomputable def shSM118 : Nat → Option z_S := z_sh shSM116 59 (.inl (.int, 60))
theorem hs_shSM118_0 : shSM118 0 = some (.inr 12) := hs_shSM116_0
noncomputable def PSM119 (ad : Nat → Nat) : z_P := z_up (PSM117 ad) 0 84 (some (ad 59))
noncomputable def shSM120 : Nat → Option z_S := z_sh shSM118 60 (.inl (.int, 60))
theorem hs_shSM120_0 : shSM120 0 = some (.inr 12) := hs_shSM118_0
noncomputable def PSM121 (ad : Nat → Nat) : z_P := z_up (PSM119 ad) 0 85 (some (ad 60))
noncomputable def shSM122 : Nat → Option z_S := z_sh shSM120 61 (.inl (.int, 60))
theorem hs_shSM122_0 : shSM122 0 = some (.inr 12) := hs_shSM120_0
noncomputable def PSM123 (ad : Nat → Nat) : z_P := z_up (PSM121 ad) 0 86 (some (ad 61))
noncomputable def shSM124 : Nat → Option z_S := z_sh shSM122 62 (.inl (.int, 60))
theorem hs_shSM124_0 : shSM124 0 = some (.inr 12) := hs_shSM122_0
noncomputable def PSM125 (ad : Nat → Nat) : z_P := z_up (PSM123 ad) 0 87 (some (ad 62))
noncomputable def shSM126 : Nat → Option z_S := z_sh shSM124 63 (.inl (.int, 60))
theorem hs_shSM126_0 : shSM126 0 = some (.inr 12) := hs_shSM124_0
noncomputable def PSM127 (ad : Nat → Nat) : z_P := z_up (PSM125 ad) 0 88 (some (ad 63))
noncomputable def shSM128 : Nat → Option z_S := z_sh shSM126 64 (.inl (.int, 60))
theorem hs_shSM128_0 : shSM128 0 = some (.inr 12) := hs_shSM126_0
noncomputable def PSM129 (ad : Nat → Nat) : z_P := z_up (PSM127 ad) 0 89 (some (ad 64))
noncomputable def shSM130 : Nat → Option z_S := z_sh shSM128 65 (.inl (.int, 60))
theorem hs_shSM130_0 : shSM130 0 = some (.inr 12) := hs_shSM128_0
noncomputable def PSM131 (ad : Nat → Nat) : z_P := z_up (PSM129 ad) 0 90 (some (ad 65))
noncomputable def shSM132 : Nat → Option z_S := z_sh shSM130 66 (.inl (.int, 60))
theorem hs_shSM132_0 : shSM132 0 = some (.inr 12) := hs_shSM130_0
noncomputable def PSM133 (ad : Nat → Nat) : z_P := z_up (PSM131 ad) 0 91 (some (ad 66))
noncomputable def shSM134 : Nat → Option z_S := z_sh shSM132 67 (.inl (.int, 60))
theorem hs_shSM134_0 : shSM134 0 = some (.inr 12) := hs_shSM132_0
noncomputable def PSM135 (ad : Nat → Nat) : z_P := z_up (PSM133 ad) 0 92 (some (ad 67))
noncomputable def shSM136 : Nat → Option z_S := z_sh shSM134 68 (.inl (.int, 12))
theorem hs_shSM136_0 : shSM136 0 = some (.inr 12) := hs_shSM134_0
noncomputable def PSM137 (ad : Nat → Nat) : z_P := z_up (PSM135 ad) 0 93 (some (ad 68))
noncomputable def shSM138 : Nat → Option z_S := z_sh shSM136 69 (.inl (.int, 30))
theorem hs_shSM138_0 : shSM138 0 = some (.inr 12) := hs_shSM136_0
noncomputable def PSM139 (ad : Nat → Nat) : z_P := z_up (PSM137 ad) 0 94 (some (ad 69))
noncomputable def shSM140 : Nat → Option z_S := z_sh shSM138 70 (.inl (.boolean, 30))
theorem hs_shSM140_0 : shSM140 0 = some (.inr 12) := hs_shSM138_0
noncomputable def PSM141 (ad : Nat → Nat) : z_P := z_up (PSM139 ad) 0 95 (some (ad 70))
theorem zi_X12_init_X12 : ∀ w ∈ wsX120, w ∈ wsX12_init := fun w h => (List.mem_cons_of_mem _ (List.mem_append_right _ h))
set_option maxHeartbeats 8000000 in
set_option maxRecDepth 100000 in
theorem ct_X12_init (l : Launch) (G : z_G) (ad : Nat → Nat) (had : ∀ k i, ad (i + k) = ad i + k) (sz : Nat) (hz : sz = ad 1) : z_Mc l yX12_init wsX12_init { frames := 1, cells := 70, slots := 207095, locals := 12 } [.ref (ad 0)] G (shM0, ad, IM0, z_J0, (PM0 ad)) (shSM140, ad, ISM51, z_J0, (PSM141 ad)) 70 70 207095 sz := by
  refine z_headQ (cc := cX12_init) (maxL := 1) (ret := none) (by decide) rfl (Nat.le_of_ble_eq_true rfl) ?_
  intro p e s m below meth c ls hIn hK hsz hW hl
  obtain ⟨hx, hb, hr, hml, hown, hts, hlocks, hname⟩ := hIn
  subst hsz
  have hz0 := hz
  have hown : s.vm.findClass RX12 = some m.cls := hown
  have hq0_ := fun (w : Cond) h => hts w (me_s (me_l (me_r (me_r (me_l h)))))
  have hq1_ := fun (w : Cond) h => hts w (me_s (me_l (me_r (me_r (me_r h)))))
  have hname : meth.name = "<init>" := hname
  have hA : ∀ q : Nat, s.heap.size ≤ q → z_A (shM0, ad, IM0, z_J0, (PM0 ad)) s.heap.size q := fun q h => Or.inr h
  generalize hAe : z_A (shM0, ad, IM0, z_J0, (PM0 ad)) s.heap.size = A at *
  have hS : va_S A s.heap s.heap [] := va_S.rf
  have hl : lv_has ls 1 [(0, .ref (ad 0))] := hl
  refine lv_aload_n hx hb dX12_init_0 rfl (lv_at hl 0 rfl) ?_
  refine W.objInit hx hb hown (hts (.methodLink RX12 1 objectInit) (me_s (me_l (me_l (List.mem_of_getElem? (i := 0) rfl))))) (hts (.instanceMethod objectInit) (me_s (me_l (me_l (List.mem_of_getElem? (i := 1) rfl))))) (hts (.code objectInit ⟨#[0xb1]⟩ 1 none) (me_s (me_l (me_l (List.mem_of_getElem? (i := 2) rfl))))) rfl (by rw [hml]; exact hl.1) rfl dX12_init_1 (Nat.le_of_ble_eq_true rfl) (Nat.le_of_ble_eq_true rfl) ?_
  refine W.eq (g2 := F0 m 4 ls []) rfl ?_
  refine lv_aload_n hx hb dX12_init_4 rfl (lv_at hl 0 rfl) ?_
  refine lv_bipush (v := 30) hx hb dX12_init_5 (by decide) ?_
  refine z_newa 1 ad (atype := .int) (ty := .int) (N' := 30) hx hb (hts (.arrayClass .int) (me_s (me_l (me_l (List.mem_of_getElem? (i := 3) rfl))))) rfl hK (by simp [z_tys]) hW hS hA hz.symm (fun _ _ => rfl) (fun _ => rfl) (by decide) rfl (Nat.le_of_ble_eq_true rfl) (Nat.le_of_ble_eq_true rfl) (Nat.le_of_ble_eq_true rfl) dX12_init_7 (fun H hz1 hW hS => ?_)
  have hz : H.size = ad 2 := hz1.trans ((congrArg (· + 1) hz).trans (had 1 _).symm)
  have hW : z_W _ A (shSM1, ad, IM0, z_J0, (PM0 ad)) H := hW
  refine z_putF (T := TX12) (N := 96) (ci := 12) (i := 0) (v := .ref (ad 1)) (I1 := IM0) (J1 := z_J0) (P1 := (PSM2 ad)) hx hb hts zi_X12_init_X12 tyX12 tyX12_ok nmX12 hown hK hW hS hs_shSM1_0 rfl 3 (by decide) (hts (.fieldLink RX12 7 "PetrolBoardModel" "sizeOf" "[I") (me_s (me_l (me_l (List.mem_of_getElem? (i := 4) rfl))))) (fun _ h => h) rfl hname rfl rfl rfl (by first | rfl | exact congrArg _ z_up_s) (fun a b h ty => z_vP h ty) dX12_init_9 (fun H locs hz1 hW hS => ?_)
  have hz : H.size = ad 2 := hz1.trans hz
  refine lv_aload_n hx hb dX12_init_12 rfl (lv_at hl 0 rfl) ?_
  refine lv_bipush (v := 30) hx hb dX12_init_13 (by decide) ?_
  refine z_newa 2 ad (atype := .int) (ty := .int) (N' := 30) hx hb (hts (.arrayClass .int) (me_s (me_l (me_l (List.mem_of_getElem? (i := 3) rfl))))) rfl hK (by simp [z_tys]) hW hS hA hz.symm (fun _ _ => rfl) (fun _ => rfl) (by decide) rfl (Nat.le_of_ble_eq_true rfl) (Nat.le_of_ble_eq_true rfl) (Nat.le_of_ble_eq_true rfl) dX12_init_15 (fun H hz1 hW hS => ?_)
  have hz : H.size = ad 3 := hz1.trans ((congrArg (· + 1) hz).trans (had 1 _).symm)
  have hW : z_W _ A (shSM3, ad, IM0, z_J0, (PSM2 ad)) H := hW
  refine z_putF (T := TX12) (N := 96) (ci := 12) (i := 0) (v := .ref (ad 2)) (I1 := IM0) (J1 := z_J0) (P1 := (PSM4 ad)) hx hb hts zi_X12_init_X12 tyX12 tyX12_ok nmX12 hown hK hW hS hs_shSM3_0 rfl 4 (by decide) (hts (.fieldLink RX12 13 "PetrolBoardModel" "townOf" "[I") (me_s (me_l (me_l (List.mem_of_getElem? (i := 5) rfl))))) (fun _ h => h) rfl hname rfl rfl rfl (by first | rfl | exact congrArg _ z_up_s) (fun a b h ty => z_vP h ty) dX12_init_17 (fun H locs hz1 hW hS => ?_)
  have hz : H.size = ad 3 := hz1.trans hz
  refine lv_aload_n hx hb dX12_init_20 rfl (lv_at hl 0 rfl) ?_
  refine lv_bipush (v := 30) hx hb dX12_init_21 (by decide) ?_
  refine z_newa 3 ad (atype := .int) (ty := .int) (N' := 30) hx hb (hts (.arrayClass .int) (me_s (me_l (me_l (List.mem_of_getElem? (i := 3) rfl))))) rfl hK (by simp [z_tys]) hW hS hA hz.symm (fun _ _ => rfl) (fun _ => rfl) (by decide) rfl (Nat.le_of_ble_eq_true rfl) (Nat.le_of_ble_eq_true rfl) (Nat.le_of_ble_eq_true rfl) dX12_init_23 (fun H hz1 hW hS => ?_)
  have hz : H.size = ad 4 := hz1.trans ((congrArg (· + 1) hz).trans (had 1 _).symm)
  have hW : z_W _ A (shSM5, ad, IM0, z_J0, (PSM4 ad)) H := hW
  refine z_putF (T := TX12) (N := 96) (ci := 12) (i := 0) (v := .ref (ad 3)) (I1 := IM0) (J1 := z_J0) (P1 := (PSM6 ad)) hx hb hts zi_X12_init_X12 tyX12 tyX12_ok nmX12 hown hK hW hS hs_shSM5_0 rfl 5 (by decide) (hts (.fieldLink RX12 16 "PetrolBoardModel" "seatsOf" "[I") (me_s (me_l (me_l (List.mem_of_getElem? (i := 6) rfl))))) (fun _ h => h) rfl hname rfl rfl rfl (by first | rfl | exact congrArg _ z_up_s) (fun a b h ty => z_vP h ty) dX12_init_25 (fun H locs hz1 hW hS => ?_)
  have hz : H.size = ad 4 := hz1.trans hz
  refine lv_aload_n hx hb dX12_init_28 rfl (lv_at hl 0 rfl) ?_
  refine lv_bipush (v := 30) hx hb dX12_init_29 (by decide) ?_
  refine z_newa 4 ad (atype := .int) (ty := .int) (N' := 30) hx hb (hts (.arrayClass .int) (me_s (me_l (me_l (List.mem_of_getElem? (i := 3) rfl))))) rfl hK (by simp [z_tys]) hW hS hA hz.symm (fun _ _ => rfl) (fun _ => rfl) (by decide) rfl (Nat.le_of_ble_eq_true rfl) (Nat.le_of_ble_eq_true rfl) (Nat.le_of_ble_eq_true rfl) dX12_init_31 (fun H hz1 hW hS => ?_)
  have hz : H.size = ad 5 := hz1.trans ((congrArg (· + 1) hz).trans (had 1 _).symm)
  have hW : z_W _ A (shSM7, ad, IM0, z_J0, (PSM6 ad)) H := hW
  refine z_putF (T := TX12) (N := 96) (ci := 12) (i := 0) (v := .ref (ad 4)) (I1 := IM0) (J1 := z_J0) (P1 := (PSM8 ad)) hx hb hts zi_X12_init_X12 tyX12 tyX12_ok nmX12 hown hK hW hS hs_shSM7_0 rfl 6 (by decide) (hts (.fieldLink RX12 19 "PetrolBoardModel" "bidOf" "[I") (me_s (me_l (me_l (List.mem_of_getElem? (i := 7) rfl))))) (fun _ h => h) rfl hname rfl rfl rfl (by first | rfl | exact congrArg _ z_up_s) (fun a b h ty => z_vP h ty) dX12_init_33 (fun H locs hz1 hW hS => ?_)
  have hz : H.size = ad 5 := hz1.trans hz
  refine lv_aload_n hx hb dX12_init_36 rfl (lv_at hl 0 rfl) ?_
  refine lv_bipush (v := 30) hx hb dX12_init_37 (by decide) ?_
  refine z_newa 5 ad (atype := .int) (ty := .int) (N' := 30) hx hb (hts (.arrayClass .int) (me_s (me_l (me_l (List.mem_of_getElem? (i := 3) rfl))))) rfl hK (by simp [z_tys]) hW hS hA hz.symm (fun _ _ => rfl) (fun _ => rfl) (by decide) rfl (Nat.le_of_ble_eq_true rfl) (Nat.le_of_ble_eq_true rfl) (Nat.le_of_ble_eq_true rfl) dX12_init_39 (fun H hz1 hW hS => ?_)
  have hz : H.size = ad 6 := hz1.trans ((congrArg (· + 1) hz).trans (had 1 _).symm)
  have hW : z_W _ A (shSM9, ad, IM0, z_J0, (PSM8 ad)) H := hW
  refine z_putF (T := TX12) (N := 96) (ci := 12) (i := 0) (v := .ref (ad 5)) (I1 := IM0) (J1 := z_J0) (P1 := (PSM10 ad)) hx hb hts zi_X12_init_X12 tyX12 tyX12_ok nmX12 hown hK hW hS hs_shSM9_0 rfl 7 (by decide) (hts (.fieldLink RX12 22 "PetrolBoardModel" "needOf" "[I") (me_s (me_l (me_l (List.mem_of_getElem? (i := 8) rfl))))) (fun _ h => h) rfl hname rfl rfl rfl (by first | rfl | exact congrArg _ z_up_s) (fun a b h ty => z_vP h ty) dX12_init_41 (fun H locs hz1 hW hS => ?_)
  have hz : H.size = ad 6 := hz1.trans hz
  refine lv_aload_n hx hb dX12_init_44 rfl (lv_at hl 0 rfl) ?_
  refine lv_sipush (v := 200) hx hb dX12_init_45 (by decide) ?_
  refine z_newa 6 ad (atype := .int) (ty := .int) (N' := 200) hx hb (hts (.arrayClass .int) (me_s (me_l (me_l (List.mem_of_getElem? (i := 3) rfl))))) rfl hK (by simp [z_tys]) hW hS hA hz.symm (fun _ _ => rfl) (fun _ => rfl) (by decide) rfl (Nat.le_of_ble_eq_true rfl) (Nat.le_of_ble_eq_true rfl) (Nat.le_of_ble_eq_true rfl) dX12_init_48 (fun H hz1 hW hS => ?_)
  have hz : H.size = ad 7 := hz1.trans ((congrArg (· + 1) hz).trans (had 1 _).symm)
  have hW : z_W _ A (shSM11, ad, IM0, z_J0, (PSM10 ad)) H := hW
  refine z_putF (T := TX12) (N := 96) (ci := 12) (i := 0) (v := .ref (ad 6)) (I1 := IM0) (J1 := z_J0) (P1 := (PSM12 ad)) hx hb hts zi_X12_init_X12 tyX12 tyX12_ok nmX12 hown hK hW hS hs_shSM11_0 rfl 8 (by decide) (hts (.fieldLink RX12 25 "PetrolBoardModel" "noteWho" "[I") (me_s (me_l (me_l (List.mem_of_getElem? (i := 9) rfl))))) (fun _ h => h) rfl hname rfl rfl rfl (by first | rfl | exact congrArg _ z_up_s) (fun a b h ty => z_vP h ty) dX12_init_50 (fun H locs hz1 hW hS => ?_)
  have hz : H.size = ad 7 := hz1.trans hz
  refine lv_aload_n hx hb dX12_init_53 rfl (lv_at hl 0 rfl) ?_
  refine lv_sipush (v := 200) hx hb dX12_init_54 (by decide) ?_
  refine z_newa 7 ad (atype := .int) (ty := .int) (N' := 200) hx hb (hts (.arrayClass .int) (me_s (me_l (me_l (List.mem_of_getElem? (i := 3) rfl))))) rfl hK (by simp [z_tys]) hW hS hA hz.symm (fun _ _ => rfl) (fun _ => rfl) (by decide) rfl (Nat.le_of_ble_eq_true rfl) (Nat.le_of_ble_eq_true rfl) (Nat.le_of_ble_eq_true rfl) dX12_init_57 (fun H hz1 hW hS => ?_)
  have hz : H.size = ad 8 := hz1.trans ((congrArg (· + 1) hz).trans (had 1 _).symm)
  have hW : z_W _ A (shSM13, ad, IM0, z_J0, (PSM12 ad)) H := hW
  refine z_putF (T := TX12) (N := 96) (ci := 12) (i := 0) (v := .ref (ad 7)) (I1 := IM0) (J1 := z_J0) (P1 := (PSM14 ad)) hx hb hts zi_X12_init_X12 tyX12 tyX12_ok nmX12 hown hK hW hS hs_shSM13_0 rfl 9 (by decide) (hts (.fieldLink RX12 28 "PetrolBoardModel" "noteClass" "[I") (me_s (me_l (me_l (List.mem_of_getElem? (i := 10) rfl))))) (fun _ h => h) rfl hname rfl rfl rfl (by first | rfl | exact congrArg _ z_up_s) (fun a b h ty => z_vP h ty) dX12_init_59 (fun H locs hz1 hW hS => ?_)
  have hz : H.size = ad 8 := hz1.trans hz
  refine lv_aload_n hx hb dX12_init_62 rfl (lv_at hl 0 rfl) ?_
  refine lv_sipush (v := 200) hx hb dX12_init_63 (by decide) ?_
  refine z_newa 8 ad (atype := .int) (ty := .int) (N' := 200) hx hb (hts (.arrayClass .int) (me_s (me_l (me_l (List.mem_of_getElem? (i := 3) rfl))))) rfl hK (by simp [z_tys]) hW hS hA hz.symm (fun _ _ => rfl) (fun _ => rfl) (by decide) rfl (Nat.le_of_ble_eq_true rfl) (Nat.le_of_ble_eq_true rfl) (Nat.le_of_ble_eq_true rfl) dX12_init_66 (fun H hz1 hW hS => ?_)
  have hz : H.size = ad 9 := hz1.trans ((congrArg (· + 1) hz).trans (had 1 _).symm)
  have hW : z_W _ A (shSM15, ad, IM0, z_J0, (PSM14 ad)) H := hW
  refine z_putF (T := TX12) (N := 96) (ci := 12) (i := 0) (v := .ref (ad 8)) (I1 := IM0) (J1 := z_J0) (P1 := (PSM16 ad)) hx hb hts zi_X12_init_X12 tyX12 tyX12_ok nmX12 hown hK hW hS hs_shSM15_0 rfl 10 (by decide) (hts (.fieldLink RX12 31 "PetrolBoardModel" "noteFrom" "[I") (me_s (me_l (me_l (List.mem_of_getElem? (i := 11) rfl))))) (fun _ h => h) rfl hname rfl rfl rfl (by first | rfl | exact congrArg _ z_up_s) (fun a b h ty => z_vP h ty) dX12_init_68 (fun H locs hz1 hW hS => ?_)
  have hz : H.size = ad 9 := hz1.trans hz
  refine lv_aload_n hx hb dX12_init_71 rfl (lv_at hl 0 rfl) ?_
  refine lv_sipush (v := 200) hx hb dX12_init_72 (by decide) ?_
  refine z_newa 9 ad (atype := .int) (ty := .int) (N' := 200) hx hb (hts (.arrayClass .int) (me_s (me_l (me_l (List.mem_of_getElem? (i := 3) rfl))))) rfl hK (by simp [z_tys]) hW hS hA hz.symm (fun _ _ => rfl) (fun _ => rfl) (by decide) rfl (Nat.le_of_ble_eq_true rfl) (Nat.le_of_ble_eq_true rfl) (Nat.le_of_ble_eq_true rfl) dX12_init_75 (fun H hz1 hW hS => ?_)
  have hz : H.size = ad 10 := hz1.trans ((congrArg (· + 1) hz).trans (had 1 _).symm)
  have hW : z_W _ A (shSM17, ad, IM0, z_J0, (PSM16 ad)) H := hW
  refine z_putF (T := TX12) (N := 96) (ci := 12) (i := 0) (v := .ref (ad 9)) (I1 := IM0) (J1 := z_J0) (P1 := (PSM18 ad)) hx hb hts zi_X12_init_X12 tyX12 tyX12_ok nmX12 hown hK hW hS hs_shSM17_0 rfl 11 (by decide) (hts (.fieldLink RX12 34 "PetrolBoardModel" "noteTold" "[I") (me_s (me_l (me_l (List.mem_of_getElem? (i := 12) rfl))))) (fun _ h => h) rfl hname rfl rfl rfl (by first | rfl | exact congrArg _ z_up_s) (fun a b h ty => z_vP h ty) dX12_init_77 (fun H locs hz1 hW hS => ?_)
  have hz : H.size = ad 10 := hz1.trans hz
  refine lv_aload_n hx hb dX12_init_80 rfl (lv_at hl 0 rfl) ?_
  refine lv_sipush (v := 200) hx hb dX12_init_81 (by decide) ?_
  refine z_newa 10 ad (atype := .int) (ty := .int) (N' := 200) hx hb (hts (.arrayClass .int) (me_s (me_l (me_l (List.mem_of_getElem? (i := 3) rfl))))) rfl hK (by simp [z_tys]) hW hS hA hz.symm (fun _ _ => rfl) (fun _ => rfl) (by decide) rfl (Nat.le_of_ble_eq_true rfl) (Nat.le_of_ble_eq_true rfl) (Nat.le_of_ble_eq_true rfl) dX12_init_84 (fun H hz1 hW hS => ?_)
  have hz : H.size = ad 11 := hz1.trans ((congrArg (· + 1) hz).trans (had 1 _).symm)
  have hW : z_W _ A (shSM19, ad, IM0, z_J0, (PSM18 ad)) H := hW
  refine z_putF (T := TX12) (N := 96) (ci := 12) (i := 0) (v := .ref (ad 10)) (I1 := IM0) (J1 := z_J0) (P1 := (PSM20 ad)) hx hb hts zi_X12_init_X12 tyX12 tyX12_ok nmX12 hown hK hW hS hs_shSM19_0 rfl 12 (by decide) (hts (.fieldLink RX12 37 "PetrolBoardModel" "noteGone" "[I") (me_s (me_l (me_l (List.mem_of_getElem? (i := 13) rfl))))) (fun _ h => h) rfl hname rfl rfl rfl (by first | rfl | exact congrArg _ z_up_s) (fun a b h ty => z_vP h ty) dX12_init_86 (fun H locs hz1 hW hS => ?_)
  have hz : H.size = ad 11 := hz1.trans hz
  refine lv_aload_n hx hb dX12_init_89 rfl (lv_at hl 0 rfl) ?_
  refine lv_bipush (v := 12) hx hb dX12_init_90 (by decide) ?_
  refine z_newa 11 ad (atype := .int) (ty := .int) (N' := 12) hx hb (hts (.arrayClass .int) (me_s (me_l (me_l (List.mem_of_getElem? (i := 3) rfl))))) rfl hK (by simp [z_tys]) hW hS hA hz.symm (fun _ _ => rfl) (fun _ => rfl) (by decide) rfl (Nat.le_of_ble_eq_true rfl) (Nat.le_of_ble_eq_true rfl) (Nat.le_of_ble_eq_true rfl) dX12_init_92 (fun H hz1 hW hS => ?_)
  have hz : H.size = ad 12 := hz1.trans ((congrArg (· + 1) hz).trans (had 1 _).symm)
  have hW : z_W _ A (shSM21, ad, IM0, z_J0, (PSM20 ad)) H := hW
  refine z_putF (T := TX12) (N := 96) (ci := 12) (i := 0) (v := .ref (ad 11)) (I1 := IM0) (J1 := z_J0) (P1 := (PSM22 ad)) hx hb hts zi_X12_init_X12 tyX12 tyX12_ok nmX12 hown hK hW hS hs_shSM21_0 rfl 16 (by decide) (hts (.fieldLink RX12 40 "PetrolBoardModel" "textFirst" "[I") (me_s (me_l (me_l (List.mem_of_getElem? (i := 14) rfl))))) (fun _ h => h) rfl hname rfl rfl rfl (by first | rfl | exact congrArg _ z_up_s) (fun a b h ty => z_vP h ty) dX12_init_94 (fun H locs hz1 hW hS => ?_)
  have hz : H.size = ad 12 := hz1.trans hz
  refine lv_aload_n hx hb dX12_init_97 rfl (lv_at hl 0 rfl) ?_
  refine lv_bipush (v := 12) hx hb dX12_init_98 (by decide) ?_
  refine z_newa 12 ad (atype := .int) (ty := .int) (N' := 12) hx hb (hts (.arrayClass .int) (me_s (me_l (me_l (List.mem_of_getElem? (i := 3) rfl))))) rfl hK (by simp [z_tys]) hW hS hA hz.symm (fun _ _ => rfl) (fun _ => rfl) (by decide) rfl (Nat.le_of_ble_eq_true rfl) (Nat.le_of_ble_eq_true rfl) (Nat.le_of_ble_eq_true rfl) dX12_init_100 (fun H hz1 hW hS => ?_)
  have hz : H.size = ad 13 := hz1.trans ((congrArg (· + 1) hz).trans (had 1 _).symm)
  have hW : z_W _ A (shSM23, ad, IM0, z_J0, (PSM22 ad)) H := hW
  refine z_putF (T := TX12) (N := 96) (ci := 12) (i := 0) (v := .ref (ad 12)) (I1 := IM0) (J1 := z_J0) (P1 := (PSM24 ad)) hx hb hts zi_X12_init_X12 tyX12 tyX12_ok nmX12 hown hK hW hS hs_shSM23_0 rfl 17 (by decide) (hts (.fieldLink RX12 43 "PetrolBoardModel" "textMany" "[I") (me_s (me_l (me_l (List.mem_of_getElem? (i := 15) rfl))))) (fun _ h => h) rfl hname rfl rfl rfl (by first | rfl | exact congrArg _ z_up_s) (fun a b h ty => z_vP h ty) dX12_init_102 (fun H locs hz1 hW hS => ?_)
  have hz : H.size = ad 13 := hz1.trans hz
  refine lv_aload_n hx hb dX12_init_105 rfl (lv_at hl 0 rfl) ?_
  refine lv_bipush (v := 12) hx hb dX12_init_106 (by decide) ?_
  refine z_newa 13 ad (atype := .int) (ty := .int) (N' := 12) hx hb (hts (.arrayClass .int) (me_s (me_l (me_l (List.mem_of_getElem? (i := 3) rfl))))) rfl hK (by simp [z_tys]) hW hS hA hz.symm (fun _ _ => rfl) (fun _ => rfl) (by decide) rfl (Nat.le_of_ble_eq_true rfl) (Nat.le_of_ble_eq_true rfl) (Nat.le_of_ble_eq_true rfl) dX12_init_108 (fun H hz1 hW hS => ?_)
  have hz : H.size = ad 14 := hz1.trans ((congrArg (· + 1) hz).trans (had 1 _).symm)
  have hW : z_W _ A (shSM25, ad, IM0, z_J0, (PSM24 ad)) H := hW
  refine z_putF (T := TX12) (N := 96) (ci := 12) (i := 0) (v := .ref (ad 13)) (I1 := IM0) (J1 := z_J0) (P1 := (PSM26 ad)) hx hb hts zi_X12_init_X12 tyX12 tyX12_ok nmX12 hown hK hW hS hs_shSM25_0 rfl 18 (by decide) (hts (.fieldLink RX12 46 "PetrolBoardModel" "textMonth" "[I") (me_s (me_l (me_l (List.mem_of_getElem? (i := 16) rfl))))) (fun _ h => h) rfl hname rfl rfl rfl (by first | rfl | exact congrArg _ z_up_s) (fun a b h ty => z_vP h ty) dX12_init_110 (fun H locs hz1 hW hS => ?_)
  have hz : H.size = ad 14 := hz1.trans hz
  refine lv_aload_n hx hb dX12_init_113 rfl (lv_at hl 0 rfl) ?_
  refine lv_bipush (v := 12) hx hb dX12_init_114 (by decide) ?_
  refine z_newa 14 ad (atype := .int) (ty := .int) (N' := 12) hx hb (hts (.arrayClass .int) (me_s (me_l (me_l (List.mem_of_getElem? (i := 3) rfl))))) rfl hK (by simp [z_tys]) hW hS hA hz.symm (fun _ _ => rfl) (fun _ => rfl) (by decide) rfl (Nat.le_of_ble_eq_true rfl) (Nat.le_of_ble_eq_true rfl) (Nat.le_of_ble_eq_true rfl) dX12_init_116 (fun H hz1 hW hS => ?_)
  have hz : H.size = ad 15 := hz1.trans ((congrArg (· + 1) hz).trans (had 1 _).symm)
  have hW : z_W _ A (shSM27, ad, IM0, z_J0, (PSM26 ad)) H := hW
  refine z_putF (T := TX12) (N := 96) (ci := 12) (i := 0) (v := .ref (ad 14)) (I1 := IM0) (J1 := z_J0) (P1 := (PSM28 ad)) hx hb hts zi_X12_init_X12 tyX12 tyX12_ok nmX12 hown hK hW hS hs_shSM27_0 rfl 19 (by decide) (hts (.fieldLink RX12 49 "PetrolBoardModel" "textTold" "[I") (me_s (me_l (me_l (List.mem_of_getElem? (i := 17) rfl))))) (fun _ h => h) rfl hname rfl rfl rfl (by first | rfl | exact congrArg _ z_up_s) (fun a b h ty => z_vP h ty) dX12_init_118 (fun H locs hz1 hW hS => ?_)
  have hz : H.size = ad 15 := hz1.trans hz
  refine lv_aload_n hx hb dX12_init_121 rfl (lv_at hl 0 rfl) ?_
  refine lv_sipush (v := 320) hx hb dX12_init_122 (by decide) ?_
  refine z_newa 15 ad (atype := .int) (ty := .int) (N' := 320) hx hb (hts (.arrayClass .int) (me_s (me_l (me_l (List.mem_of_getElem? (i := 3) rfl))))) rfl hK (by simp [z_tys]) hW hS hA hz.symm (fun _ _ => rfl) (fun _ => rfl) (by decide) rfl (Nat.le_of_ble_eq_true rfl) (Nat.le_of_ble_eq_true rfl) (Nat.le_of_ble_eq_true rfl) dX12_init_125 (fun H hz1 hW hS => ?_)
  have hz : H.size = ad 16 := hz1.trans ((congrArg (· + 1) hz).trans (had 1 _).symm)
  have hW : z_W _ A (shSM29, ad, IM0, z_J0, (PSM28 ad)) H := hW
  refine z_putF (T := TX12) (N := 96) (ci := 12) (i := 0) (v := .ref (ad 15)) (I1 := IM0) (J1 := z_J0) (P1 := (PSM30 ad)) hx hb hts zi_X12_init_X12 tyX12 tyX12_ok nmX12 hown hK hW hS hs_shSM29_0 rfl 20 (by decide) (hts (.fieldLink RX12 52 "PetrolBoardModel" "stRule" "[I") (me_s (me_l (me_l (List.mem_of_getElem? (i := 18) rfl))))) (fun _ h => h) rfl hname rfl rfl rfl (by first | rfl | exact congrArg _ z_up_s) (fun a b h ty => z_vP h ty) dX12_init_127 (fun H locs hz1 hW hS => ?_)
  have hz : H.size = ad 16 := hz1.trans hz
  refine lv_aload_n hx hb dX12_init_130 rfl (lv_at hl 0 rfl) ?_
  refine lv_sipush (v := 320) hx hb dX12_init_131 (by decide) ?_
  refine z_newa 16 ad (atype := .int) (ty := .int) (N' := 320) hx hb (hts (.arrayClass .int) (me_s (me_l (me_l (List.mem_of_getElem? (i := 3) rfl))))) rfl hK (by simp [z_tys]) hW hS hA hz.symm (fun _ _ => rfl) (fun _ => rfl) (by decide) rfl (Nat.le_of_ble_eq_true rfl) (Nat.le_of_ble_eq_true rfl) (Nat.le_of_ble_eq_true rfl) dX12_init_134 (fun H hz1 hW hS => ?_)
  have hz : H.size = ad 17 := hz1.trans ((congrArg (· + 1) hz).trans (had 1 _).symm)
  have hW : z_W _ A (shSM31, ad, IM0, z_J0, (PSM30 ad)) H := hW
  refine z_putF (T := TX12) (N := 96) (ci := 12) (i := 0) (v := .ref (ad 16)) (I1 := IM0) (J1 := z_J0) (P1 := (PSM32 ad)) hx hb hts zi_X12_init_X12 tyX12 tyX12_ok nmX12 hown hK hW hS hs_shSM31_0 rfl 21 (by decide) (hts (.fieldLink RX12 55 "PetrolBoardModel" "stNumber" "[I") (me_s (me_l (me_l (List.mem_of_getElem? (i := 19) rfl))))) (fun _ h => h) rfl hname rfl rfl rfl (by first | rfl | exact congrArg _ z_up_s) (fun a b h ty => z_vP h ty) dX12_init_136 (fun H locs hz1 hW hS => ?_)
  have hz : H.size = ad 17 := hz1.trans hz
  refine lv_aload_n hx hb dX12_init_139 rfl (lv_at hl 0 rfl) ?_
  refine lv_sipush (v := 320) hx hb dX12_init_140 (by decide) ?_
  refine z_newa 17 ad (atype := .int) (ty := .int) (N' := 320) hx hb (hts (.arrayClass .int) (me_s (me_l (me_l (List.mem_of_getElem? (i := 3) rfl))))) rfl hK (by simp [z_tys]) hW hS hA hz.symm (fun _ _ => rfl) (fun _ => rfl) (by decide) rfl (Nat.le_of_ble_eq_true rfl) (Nat.le_of_ble_eq_true rfl) (Nat.le_of_ble_eq_true rfl) dX12_init_143 (fun H hz1 hW hS => ?_)
  have hz : H.size = ad 18 := hz1.trans ((congrArg (· + 1) hz).trans (had 1 _).symm)
  have hW : z_W _ A (shSM33, ad, IM0, z_J0, (PSM32 ad)) H := hW
  refine z_putF (T := TX12) (N := 96) (ci := 12) (i := 0) (v := .ref (ad 17)) (I1 := IM0) (J1 := z_J0) (P1 := (PSM34 ad)) hx hb hts zi_X12_init_X12 tyX12 tyX12_ok nmX12 hown hK hW hS hs_shSM33_0 rfl 22 (by decide) (hts (.fieldLink RX12 58 "PetrolBoardModel" "stEx" "[I") (me_s (me_l (me_l (List.mem_of_getElem? (i := 20) rfl))))) (fun _ h => h) rfl hname rfl rfl rfl (by first | rfl | exact congrArg _ z_up_s) (fun a b h ty => z_vP h ty) dX12_init_145 (fun H locs hz1 hW hS => ?_)
  have hz : H.size = ad 18 := hz1.trans hz
  refine lv_aload_n hx hb dX12_init_148 rfl (lv_at hl 0 rfl) ?_
  refine lv_sipush (v := 320) hx hb dX12_init_149 (by decide) ?_
  refine z_newa 18 ad (atype := .int) (ty := .int) (N' := 320) hx hb (hts (.arrayClass .int) (me_s (me_l (me_l (List.mem_of_getElem? (i := 3) rfl))))) rfl hK (by simp [z_tys]) hW hS hA hz.symm (fun _ _ => rfl) (fun _ => rfl) (by decide) rfl (Nat.le_of_ble_eq_true rfl) (Nat.le_of_ble_eq_true rfl) (Nat.le_of_ble_eq_true rfl) dX12_init_152 (fun H hz1 hW hS => ?_)
  have hz : H.size = ad 19 := hz1.trans ((congrArg (· + 1) hz).trans (had 1 _).symm)
  have hW : z_W _ A (shSM35, ad, IM0, z_J0, (PSM34 ad)) H := hW
  refine z_putF (T := TX12) (N := 96) (ci := 12) (i := 0) (v := .ref (ad 18)) (I1 := IM0) (J1 := z_J0) (P1 := (PSM36 ad)) hx hb hts zi_X12_init_X12 tyX12 tyX12_ok nmX12 hown hK hW hS hs_shSM35_0 rfl 23 (by decide) (hts (.fieldLink RX12 61 "PetrolBoardModel" "stCond" "[I") (me_s (me_l (me_l (List.mem_of_getElem? (i := 21) rfl))))) (fun _ h => h) rfl hname rfl rfl rfl (by first | rfl | exact congrArg _ z_up_s) (fun a b h ty => z_vP h ty) dX12_init_154 (fun H locs hz1 hW hS => ?_)
  have hz : H.size = ad 19 := hz1.trans hz
  refine lv_aload_n hx hb dX12_init_157 rfl (lv_at hl 0 rfl) ?_
  refine lv_sipush (v := 320) hx hb dX12_init_158 (by decide) ?_
  refine z_newa 19 ad (atype := .int) (ty := .int) (N' := 320) hx hb (hts (.arrayClass .int) (me_s (me_l (me_l (List.mem_of_getElem? (i := 3) rfl))))) rfl hK (by simp [z_tys]) hW hS hA hz.symm (fun _ _ => rfl) (fun _ => rfl) (by decide) rfl (Nat.le_of_ble_eq_true rfl) (Nat.le_of_ble_eq_true rfl) (Nat.le_of_ble_eq_true rfl) dX12_init_161 (fun H hz1 hW hS => ?_)
  have hz : H.size = ad 20 := hz1.trans ((congrArg (· + 1) hz).trans (had 1 _).symm)
  have hW : z_W _ A (shSM37, ad, IM0, z_J0, (PSM36 ad)) H := hW
  refine z_putF (T := TX12) (N := 96) (ci := 12) (i := 0) (v := .ref (ad 19)) (I1 := IM0) (J1 := z_J0) (P1 := (PSM38 ad)) hx hb hts zi_X12_init_X12 tyX12 tyX12_ok nmX12 hown hK hW hS hs_shSM37_0 rfl 24 (by decide) (hts (.fieldLink RX12 64 "PetrolBoardModel" "stFrom" "[I") (me_s (me_l (me_l (List.mem_of_getElem? (i := 22) rfl))))) (fun _ h => h) rfl hname rfl rfl rfl (by first | rfl | exact congrArg _ z_up_s) (fun a b h ty => z_vP h ty) dX12_init_163 (fun H locs hz1 hW hS => ?_)
  have hz : H.size = ad 20 := hz1.trans hz
  refine lv_aload_n hx hb dX12_init_166 rfl (lv_at hl 0 rfl) ?_
  refine lv_sipush (v := 320) hx hb dX12_init_167 (by decide) ?_
  refine z_newa 20 ad (atype := .int) (ty := .int) (N' := 320) hx hb (hts (.arrayClass .int) (me_s (me_l (me_l (List.mem_of_getElem? (i := 3) rfl))))) rfl hK (by simp [z_tys]) hW hS hA hz.symm (fun _ _ => rfl) (fun _ => rfl) (by decide) rfl (Nat.le_of_ble_eq_true rfl) (Nat.le_of_ble_eq_true rfl) (Nat.le_of_ble_eq_true rfl) dX12_init_170 (fun H hz1 hW hS => ?_)
  have hz : H.size = ad 21 := hz1.trans ((congrArg (· + 1) hz).trans (had 1 _).symm)
  have hW : z_W _ A (shSM39, ad, IM0, z_J0, (PSM38 ad)) H := hW
  refine z_putF (T := TX12) (N := 96) (ci := 12) (i := 0) (v := .ref (ad 20)) (I1 := IM0) (J1 := z_J0) (P1 := (PSM40 ad)) hx hb hts zi_X12_init_X12 tyX12 tyX12_ok nmX12 hown hK hW hS hs_shSM39_0 rfl 25 (by decide) (hts (.fieldLink RX12 67 "PetrolBoardModel" "stTo" "[I") (me_s (me_l (me_l (List.mem_of_getElem? (i := 23) rfl))))) (fun _ h => h) rfl hname rfl rfl rfl (by first | rfl | exact congrArg _ z_up_s) (fun a b h ty => z_vP h ty) dX12_init_172 (fun H locs hz1 hW hS => ?_)
  have hz : H.size = ad 21 := hz1.trans hz
  refine lv_aload_n hx hb dX12_init_175 rfl (lv_at hl 0 rfl) ?_
  refine lv_sipush (v := 6200) hx hb dX12_init_176 (by decide) ?_
  refine z_newa 21 ad (atype := .int) (ty := .int) (N' := 6200) hx hb (hts (.arrayClass .int) (me_s (me_l (me_l (List.mem_of_getElem? (i := 3) rfl))))) rfl hK (by simp [z_tys]) hW hS hA hz.symm (fun _ _ => rfl) (fun _ => rfl) (by decide) rfl (Nat.le_of_ble_eq_true rfl) (Nat.le_of_ble_eq_true rfl) (Nat.le_of_ble_eq_true rfl) dX12_init_179 (fun H hz1 hW hS => ?_)
  have hz : H.size = ad 22 := hz1.trans ((congrArg (· + 1) hz).trans (had 1 _).symm)
  have hW : z_W _ A (shSM41, ad, IM0, z_J0, (PSM40 ad)) H := hW
  refine z_putF (T := TX12) (N := 96) (ci := 12) (i := 0) (v := .ref (ad 21)) (I1 := IM0) (J1 := z_J0) (P1 := (PSM42 ad)) hx hb hts zi_X12_init_X12 tyX12 tyX12_ok nmX12 hown hK hW hS hs_shSM41_0 rfl 26 (by decide) (hts (.fieldLink RX12 70 "PetrolBoardModel" "nodeKind" "[I") (me_s (me_l (me_r (me_l (List.mem_of_getElem? (i := 0) rfl)))))) (fun _ h => h) rfl hname rfl rfl rfl (by first | rfl | exact congrArg _ z_up_s) (fun a b h ty => z_vP h ty) dX12_init_181 (fun H locs hz1 hW hS => ?_)
  have hz : H.size = ad 22 := hz1.trans hz
  refine lv_aload_n hx hb dX12_init_184 rfl (lv_at hl 0 rfl) ?_
  refine lv_sipush (v := 6200) hx hb dX12_init_185 (by decide) ?_
  refine z_newa 22 ad (atype := .int) (ty := .int) (N' := 6200) hx hb (hts (.arrayClass .int) (me_s (me_l (me_l (List.mem_of_getElem? (i := 3) rfl))))) rfl hK (by simp [z_tys]) hW hS hA hz.symm (fun _ _ => rfl) (fun _ => rfl) (by decide) rfl (Nat.le_of_ble_eq_true rfl) (Nat.le_of_ble_eq_true rfl) (Nat.le_of_ble_eq_true rfl) dX12_init_188 (fun H hz1 hW hS => ?_)
  have hz : H.size = ad 23 := hz1.trans ((congrArg (· + 1) hz).trans (had 1 _).symm)
  have hW : z_W _ A (shSM43, ad, IM0, z_J0, (PSM42 ad)) H := hW
  refine z_putF (T := TX12) (N := 96) (ci := 12) (i := 0) (v := .ref (ad 22)) (I1 := IM0) (J1 := z_J0) (P1 := (PSM44 ad)) hx hb hts zi_X12_init_X12 tyX12 tyX12_ok nmX12 hown hK hW hS hs_shSM43_0 rfl 27 (by decide) (hts (.fieldLink RX12 73 "PetrolBoardModel" "nodeA" "[I") (me_s (me_l (me_r (me_l (List.mem_of_getElem? (i := 1) rfl)))))) (fun _ h => h) rfl hname rfl rfl rfl (by first | rfl | exact congrArg _ z_up_s) (fun a b h ty => z_vP h ty) dX12_init_190 (fun H locs hz1 hW hS => ?_)
  have hz : H.size = ad 23 := hz1.trans hz
  refine lv_aload_n hx hb dX12_init_193 rfl (lv_at hl 0 rfl) ?_
  refine lv_sipush (v := 6200) hx hb dX12_init_194 (by decide) ?_
  refine z_newa 23 ad (atype := .int) (ty := .int) (N' := 6200) hx hb (hts (.arrayClass .int) (me_s (me_l (me_l (List.mem_of_getElem? (i := 3) rfl))))) rfl hK (by simp [z_tys]) hW hS hA hz.symm (fun _ _ => rfl) (fun _ => rfl) (by decide) rfl (Nat.le_of_ble_eq_true rfl) (Nat.le_of_ble_eq_true rfl) (Nat.le_of_ble_eq_true rfl) dX12_init_197 (fun H hz1 hW hS => ?_)
  have hz : H.size = ad 24 := hz1.trans ((congrArg (· + 1) hz).trans (had 1 _).symm)
  have hW : z_W _ A (shSM45, ad, IM0, z_J0, (PSM44 ad)) H := hW
  refine z_putF (T := TX12) (N := 96) (ci := 12) (i := 0) (v := .ref (ad 23)) (I1 := IM0) (J1 := z_J0) (P1 := (PSM46 ad)) hx hb hts zi_X12_init_X12 tyX12 tyX12_ok nmX12 hown hK hW hS hs_shSM45_0 rfl 28 (by decide) (hts (.fieldLink RX12 76 "PetrolBoardModel" "nodeB" "[I") (me_s (me_l (me_r (me_l (List.mem_of_getElem? (i := 2) rfl)))))) (fun _ h => h) rfl hname rfl rfl rfl (by first | rfl | exact congrArg _ z_up_s) (fun a b h ty => z_vP h ty) dX12_init_199 (fun H locs hz1 hW hS => ?_)
  have hz : H.size = ad 24 := hz1.trans hz
  refine lv_aload_n hx hb dX12_init_202 rfl (lv_at hl 0 rfl) ?_
  refine lv_sipush (v := 6200) hx hb dX12_init_203 (by decide) ?_
  refine z_newa 24 ad (atype := .long) (ty := .long) (N' := 6200) hx hb (hts (.arrayClass .long) (me_s (me_l (me_r (me_l (List.mem_of_getElem? (i := 3) rfl)))))) rfl hK (by simp [z_tys]) hW hS hA hz.symm (fun _ _ => rfl) (fun _ => rfl) (by decide) rfl (Nat.le_of_ble_eq_true rfl) (Nat.le_of_ble_eq_true rfl) (Nat.le_of_ble_eq_true rfl) dX12_init_206 (fun H hz1 hW hS => ?_)
  have hz : H.size = ad 25 := hz1.trans ((congrArg (· + 1) hz).trans (had 1 _).symm)
  have hW : z_W _ A (shSM47, ad, IM0, z_J0, (PSM46 ad)) H := hW
  refine z_putF (T := TX12) (N := 96) (ci := 12) (i := 0) (v := .ref (ad 24)) (I1 := IM0) (J1 := z_J0) (P1 := (PSM48 ad)) hx hb hts zi_X12_init_X12 tyX12 tyX12_ok nmX12 hown hK hW hS hs_shSM47_0 rfl 29 (by decide) (hts (.fieldLink RX12 79 "PetrolBoardModel" "result" "[J") (me_s (me_l (me_r (me_l (List.mem_of_getElem? (i := 4) rfl)))))) (fun _ h => h) rfl hname rfl rfl rfl (by first | rfl | exact congrArg _ z_up_s) (fun a b h ty => z_vP h ty) dX12_init_208 (fun H locs hz1 hW hS => ?_)
  have hz : H.size = ad 25 := hz1.trans hz
  refine lv_aload_n hx hb dX12_init_211 rfl (lv_at hl 0 rfl) ?_
  refine lv_sipush (v := 500) hx hb dX12_init_212 (by decide) ?_
  refine z_newa 25 ad (atype := .byte) (ty := .byte) (N' := 500) hx hb (hts (.arrayClass .byte) (me_s (me_l (me_r (me_l (List.mem_of_getElem? (i := 5) rfl)))))) rfl hK (by simp [z_tys]) hW hS hA hz.symm (fun _ _ => rfl) (fun _ => rfl) (by decide) rfl (Nat.le_of_ble_eq_true rfl) (Nat.le_of_ble_eq_true rfl) (Nat.le_of_ble_eq_true rfl) dX12_init_215 (fun H hz1 hW hS => ?_)
  have hz : H.size = ad 26 := hz1.trans ((congrArg (· + 1) hz).trans (had 1 _).symm)
  have hW : z_W _ A (shSM49, ad, IM0, z_J0, (PSM48 ad)) H := hW
  refine z_putF (T := TX12) (N := 96) (ci := 12) (i := 0) (v := .ref (ad 25)) (I1 := IM0) (J1 := z_J0) (P1 := (PSM50 ad)) hx hb hts zi_X12_init_X12 tyX12 tyX12_ok nmX12 hown hK hW hS hs_shSM49_0 rfl 30 (by decide) (hts (.fieldLink RX12 83 "PetrolBoardModel" "tape" "[B") (me_s (me_l (me_r (me_l (List.mem_of_getElem? (i := 6) rfl)))))) (fun _ h => h) rfl hname rfl rfl rfl (by first | rfl | exact congrArg _ z_up_s) (fun a b h ty => z_vP h ty) dX12_init_217 (fun H locs hz1 hW hS => ?_)
  have hz : H.size = ad 26 := hz1.trans hz
  refine lv_aload_n hx hb dX12_init_220 rfl (lv_at hl 0 rfl) ?_
  refine lv_iconst (v := (-1)) hx hb dX12_init_221 (by decide) ?_
  refine z_put (T := TX12) (N := 96) (ci := 12) (i := 0) (v := .int (-1)) (I1 := ISM51) (J1 := z_J0) (P1 := (PSM50 ad)) hx hb hts zi_X12_init_X12 tyX12 tyX12_ok nmX12 hown hK hW hS hs_shSM49_0 rfl 32 (by decide) (hts (.fieldLink RX12 87 "PetrolBoardModel" "faultAt" "I") (me_s (me_l (me_r (me_l (List.mem_of_getElem? (i := 7) rfl)))))) (fun _ h => h) rfl rfl rfl (by first | rfl | exact congrArg _ z_up_s) (fun a b h ty => z_vI h ty) dX12_init_222 (fun H locs hz1 hW hS => ?_)
  have hz : H.size = ad 26 := hz1.trans hz
  refine lv_aload_n hx hb dX12_init_225 rfl (lv_at hl 0 rfl) ?_
  refine lv_bipush (v := 120) hx hb dX12_init_226 (by decide) ?_
  refine z_newa 26 ad (atype := .int) (ty := .int) (N' := 120) hx hb (hts (.arrayClass .int) (me_s (me_l (me_l (List.mem_of_getElem? (i := 3) rfl))))) rfl hK (by simp [z_tys]) hW hS hA hz.symm (fun _ _ => rfl) (fun _ => rfl) (by decide) rfl (Nat.le_of_ble_eq_true rfl) (Nat.le_of_ble_eq_true rfl) (Nat.le_of_ble_eq_true rfl) dX12_init_228 (fun H hz1 hW hS => ?_)
  have hz : H.size = ad 27 := hz1.trans ((congrArg (· + 1) hz).trans (had 1 _).symm)
  have hW : z_W _ A (shSM52, ad, ISM51, z_J0, (PSM50 ad)) H := hW
  refine z_putF (T := TX12) (N := 96) (ci := 12) (i := 0) (v := .ref (ad 26)) (I1 := ISM51) (J1 := z_J0) (P1 := (PSM53 ad)) hx hb hts zi_X12_init_X12 tyX12 tyX12_ok nmX12 hown hK hW hS hs_shSM52_0 rfl 43 (by decide) (hts (.fieldLink RX12 91 "PetrolBoardModel" "what" "[I") (me_s (me_l (me_r (me_l (List.mem_of_getElem? (i := 8) rfl)))))) (fun _ h => h) rfl hname rfl rfl rfl (by first | rfl | exact congrArg _ z_up_s) (fun a b h ty => z_vP h ty) dX12_init_230 (fun H locs hz1 hW hS => ?_)
  have hz : H.size = ad 27 := hz1.trans hz
  refine lv_aload_n hx hb dX12_init_233 rfl (lv_at hl 0 rfl) ?_
  refine lv_bipush (v := 120) hx hb dX12_init_234 (by decide) ?_
  refine z_newa 27 ad (atype := .int) (ty := .int) (N' := 120) hx hb (hts (.arrayClass .int) (me_s (me_l (me_l (List.mem_of_getElem? (i := 3) rfl))))) rfl hK (by simp [z_tys]) hW hS hA hz.symm (fun _ _ => rfl) (fun _ => rfl) (by decide) rfl (Nat.le_of_ble_eq_true rfl) (Nat.le_of_ble_eq_true rfl) (Nat.le_of_ble_eq_true rfl) dX12_init_236 (fun H hz1 hW hS => ?_)
  have hz : H.size = ad 28 := hz1.trans ((congrArg (· + 1) hz).trans (had 1 _).symm)
  have hW : z_W _ A (shSM54, ad, ISM51, z_J0, (PSM53 ad)) H := hW
  refine z_putF (T := TX12) (N := 96) (ci := 12) (i := 0) (v := .ref (ad 27)) (I1 := ISM51) (J1 := z_J0) (P1 := (PSM55 ad)) hx hb hts zi_X12_init_X12 tyX12 tyX12_ok nmX12 hown hK hW hS hs_shSM54_0 rfl 44 (by decide) (hts (.fieldLink RX12 94 "PetrolBoardModel" "at" "[I") (me_s (me_l (me_r (me_l (List.mem_of_getElem? (i := 9) rfl)))))) (fun _ h => h) rfl hname rfl rfl rfl (by first | rfl | exact congrArg _ z_up_s) (fun a b h ty => z_vP h ty) dX12_init_238 (fun H locs hz1 hW hS => ?_)
  have hz : H.size = ad 28 := hz1.trans hz
  refine lv_aload_n hx hb dX12_init_241 rfl (lv_at hl 0 rfl) ?_
  refine lv_bipush (v := 120) hx hb dX12_init_242 (by decide) ?_
  refine z_newa 28 ad (atype := .int) (ty := .int) (N' := 120) hx hb (hts (.arrayClass .int) (me_s (me_l (me_l (List.mem_of_getElem? (i := 3) rfl))))) rfl hK (by simp [z_tys]) hW hS hA hz.symm (fun _ _ => rfl) (fun _ => rfl) (by decide) rfl (Nat.le_of_ble_eq_true rfl) (Nat.le_of_ble_eq_true rfl) (Nat.le_of_ble_eq_true rfl) dX12_init_244 (fun H hz1 hW hS => ?_)
  have hz : H.size = ad 29 := hz1.trans ((congrArg (· + 1) hz).trans (had 1 _).symm)
  have hW : z_W _ A (shSM56, ad, ISM51, z_J0, (PSM55 ad)) H := hW
  refine z_putF (T := TX12) (N := 96) (ci := 12) (i := 0) (v := .ref (ad 28)) (I1 := ISM51) (J1 := z_J0) (P1 := (PSM57 ad)) hx hb hts zi_X12_init_X12 tyX12 tyX12_ok nmX12 hown hK hW hS hs_shSM56_0 rfl 45 (by decide) (hts (.fieldLink RX12 97 "PetrolBoardModel" "one" "[I") (me_s (me_l (me_r (me_l (List.mem_of_getElem? (i := 10) rfl)))))) (fun _ h => h) rfl hname rfl rfl rfl (by first | rfl | exact congrArg _ z_up_s) (fun a b h ty => z_vP h ty) dX12_init_246 (fun H locs hz1 hW hS => ?_)
  have hz : H.size = ad 29 := hz1.trans hz
  refine lv_aload_n hx hb dX12_init_249 rfl (lv_at hl 0 rfl) ?_
  refine lv_bipush (v := 120) hx hb dX12_init_250 (by decide) ?_
  refine z_newa 29 ad (atype := .int) (ty := .int) (N' := 120) hx hb (hts (.arrayClass .int) (me_s (me_l (me_l (List.mem_of_getElem? (i := 3) rfl))))) rfl hK (by simp [z_tys]) hW hS hA hz.symm (fun _ _ => rfl) (fun _ => rfl) (by decide) rfl (Nat.le_of_ble_eq_true rfl) (Nat.le_of_ble_eq_true rfl) (Nat.le_of_ble_eq_true rfl) dX12_init_252 (fun H hz1 hW hS => ?_)
  have hz : H.size = ad 30 := hz1.trans ((congrArg (· + 1) hz).trans (had 1 _).symm)
  have hW : z_W _ A (shSM58, ad, ISM51, z_J0, (PSM57 ad)) H := hW
  refine z_putF (T := TX12) (N := 96) (ci := 12) (i := 0) (v := .ref (ad 29)) (I1 := ISM51) (J1 := z_J0) (P1 := (PSM59 ad)) hx hb hts zi_X12_init_X12 tyX12 tyX12_ok nmX12 hown hK hW hS hs_shSM58_0 rfl 46 (by decide) (hts (.fieldLink RX12 100 "PetrolBoardModel" "sort" "[I") (me_s (me_l (me_r (me_l (List.mem_of_getElem? (i := 11) rfl)))))) (fun _ h => h) rfl hname rfl rfl rfl (by first | rfl | exact congrArg _ z_up_s) (fun a b h ty => z_vP h ty) dX12_init_254 (fun H locs hz1 hW hS => ?_)
  have hz : H.size = ad 30 := hz1.trans hz
  refine lv_aload_n hx hb dX12_init_257 rfl (lv_at hl 0 rfl) ?_
  refine lv_bipush (v := 7) hx hb dX12_init_258 (by decide) ?_
  refine z_newa 30 ad (atype := .long) (ty := .long) (N' := 7) hx hb (hts (.arrayClass .long) (me_s (me_l (me_r (me_l (List.mem_of_getElem? (i := 3) rfl)))))) rfl hK (by simp [z_tys]) hW hS hA hz.symm (fun _ _ => rfl) (fun _ => rfl) (by decide) rfl (Nat.le_of_ble_eq_true rfl) (Nat.le_of_ble_eq_true rfl) (Nat.le_of_ble_eq_true rfl) dX12_init_260 (fun H hz1 hW hS => ?_)
  have hz : H.size = ad 31 := hz1.trans ((congrArg (· + 1) hz).trans (had 1 _).symm)
  have hW : z_W _ A (shSM60, ad, ISM51, z_J0, (PSM59 ad)) H := hW
  refine z_putF (T := TX12) (N := 96) (ci := 12) (i := 0) (v := .ref (ad 30)) (I1 := ISM51) (J1 := z_J0) (P1 := (PSM61 ad)) hx hb hts zi_X12_init_X12 tyX12 tyX12_ok nmX12 hown hK hW hS hs_shSM60_0 rfl 48 (by decide) (hts (.fieldLink RX12 103 "PetrolBoardModel" "asks" "[J") (me_s (me_l (me_r (me_l (List.mem_of_getElem? (i := 12) rfl)))))) (fun _ h => h) rfl hname rfl rfl rfl (by first | rfl | exact congrArg _ z_up_s) (fun a b h ty => z_vP h ty) dX12_init_262 (fun H locs hz1 hW hS => ?_)
  have hz : H.size = ad 31 := hz1.trans hz
  refine lv_aload_n hx hb dX12_init_265 rfl (lv_at hl 0 rfl) ?_
  refine lv_sipush (v := 720) hx hb dX12_init_266 (by decide) ?_
  refine z_newa 31 ad (atype := .int) (ty := .int) (N' := 720) hx hb (hts (.arrayClass .int) (me_s (me_l (me_l (List.mem_of_getElem? (i := 3) rfl))))) rfl hK (by simp [z_tys]) hW hS hA hz.symm (fun _ _ => rfl) (fun _ => rfl) (by decide) rfl (Nat.le_of_ble_eq_true rfl) (Nat.le_of_ble_eq_true rfl) (Nat.le_of_ble_eq_true rfl) dX12_init_269 (fun H hz1 hW hS => ?_)
  have hz : H.size = ad 32 := hz1.trans ((congrArg (· + 1) hz).trans (had 1 _).symm)
  have hW : z_W _ A (shSM62, ad, ISM51, z_J0, (PSM61 ad)) H := hW
  refine z_putF (T := TX12) (N := 96) (ci := 12) (i := 0) (v := .ref (ad 31)) (I1 := ISM51) (J1 := z_J0) (P1 := (PSM63 ad)) hx hb hts zi_X12_init_X12 tyX12 tyX12_ok nmX12 hown hK hW hS hs_shSM62_0 rfl 49 (by decide) (hts (.fieldLink RX12 106 "PetrolBoardModel" "issued" "[I") (me_s (me_l (me_r (me_l (List.mem_of_getElem? (i := 13) rfl)))))) (fun _ h => h) rfl hname rfl rfl rfl (by first | rfl | exact congrArg _ z_up_s) (fun a b h ty => z_vP h ty) dX12_init_271 (fun H locs hz1 hW hS => ?_)
  have hz : H.size = ad 32 := hz1.trans hz
  refine lv_aload_n hx hb dX12_init_274 rfl (lv_at hl 0 rfl) ?_
  refine lv_ldc (v := 72000) hx hb hown (hts (.constant RX12 109 (72000)) (me_s (me_l (me_r (me_l (List.mem_of_getElem? (i := 14) rfl)))))) dX12_init_275 ?_
  refine z_newa 32 ad (atype := .int) (ty := .int) (N' := 72000) hx hb (hts (.arrayClass .int) (me_s (me_l (me_l (List.mem_of_getElem? (i := 3) rfl))))) rfl hK (by simp [z_tys]) hW hS hA hz.symm (fun _ _ => rfl) (fun _ => rfl) (by decide) rfl (Nat.le_of_ble_eq_true rfl) (Nat.le_of_ble_eq_true rfl) (Nat.le_of_ble_eq_true rfl) dX12_init_277 (fun H hz1 hW hS => ?_)
  have hz : H.size = ad 33 := hz1.trans ((congrArg (· + 1) hz).trans (had 1 _).symm)
  have hW : z_W _ A (shSM64, ad, ISM51, z_J0, (PSM63 ad)) H := hW
  refine z_putF (T := TX12) (N := 96) (ci := 12) (i := 0) (v := .ref (ad 32)) (I1 := ISM51) (J1 := z_J0) (P1 := (PSM65 ad)) hx hb hts zi_X12_init_X12 tyX12 tyX12_ok nmX12 hown hK hW hS hs_shSM64_0 rfl 52 (by decide) (hts (.fieldLink RX12 110 "PetrolBoardModel" "lentTo" "[I") (me_s (me_l (me_r (me_l (List.mem_of_getElem? (i := 15) rfl)))))) (fun _ h => h) rfl hname rfl rfl rfl (by first | rfl | exact congrArg _ z_up_s) (fun a b h ty => z_vP h ty) dX12_init_279 (fun H locs hz1 hW hS => ?_)
  have hz : H.size = ad 33 := hz1.trans hz
  refine lv_aload_n hx hb dX12_init_282 rfl (lv_at hl 0 rfl) ?_
  refine lv_ldc (v := 100000) hx hb hown (hts (.constant RX12 113 (100000)) (me_s (me_l (me_r (me_l (List.mem_of_getElem? (i := 16) rfl)))))) dX12_init_283 ?_
  refine z_newa 33 ad (atype := .boolean) (ty := .boolean) (N' := 100000) hx hb (hts (.arrayClass .boolean) (me_s (me_l (me_r (me_l (List.mem_of_getElem? (i := 17) rfl)))))) rfl hK (by simp [z_tys]) hW hS hA hz.symm (fun _ _ => rfl) (fun _ => rfl) (by decide) rfl (Nat.le_of_ble_eq_true rfl) (Nat.le_of_ble_eq_true rfl) (Nat.le_of_ble_eq_true rfl) dX12_init_285 (fun H hz1 hW hS => ?_)
  have hz : H.size = ad 34 := hz1.trans ((congrArg (· + 1) hz).trans (had 1 _).symm)
  have hW : z_W _ A (shSM66, ad, ISM51, z_J0, (PSM65 ad)) H := hW
  refine z_putF (T := TX12) (N := 96) (ci := 12) (i := 0) (v := .ref (ad 33)) (I1 := ISM51) (J1 := z_J0) (P1 := (PSM67 ad)) hx hb hts zi_X12_init_X12 tyX12 tyX12_ok nmX12 hown hK hW hS hs_shSM66_0 rfl 53 (by decide) (hts (.fieldLink RX12 114 "PetrolBoardModel" "wasIn" "[Z") (me_s (me_l (me_r (me_l (List.mem_of_getElem? (i := 18) rfl)))))) (fun _ h => h) rfl hname rfl rfl rfl (by first | rfl | exact congrArg _ z_up_s) (fun a b h ty => z_vP h ty) dX12_init_287 (fun H locs hz1 hW hS => ?_)
  have hz : H.size = ad 34 := hz1.trans hz
  refine lv_aload_n hx hb dX12_init_290 rfl (lv_at hl 0 rfl) ?_
  refine lv_sipush (v := 300) hx hb dX12_init_291 (by decide) ?_
  refine z_newa 34 ad (atype := .int) (ty := .int) (N' := 300) hx hb (hts (.arrayClass .int) (me_s (me_l (me_l (List.mem_of_getElem? (i := 3) rfl))))) rfl hK (by simp [z_tys]) hW hS hA hz.symm (fun _ _ => rfl) (fun _ => rfl) (by decide) rfl (Nat.le_of_ble_eq_true rfl) (Nat.le_of_ble_eq_true rfl) (Nat.le_of_ble_eq_true rfl) dX12_init_294 (fun H hz1 hW hS => ?_)
  have hz : H.size = ad 35 := hz1.trans ((congrArg (· + 1) hz).trans (had 1 _).symm)
  have hW : z_W _ A (shSM68, ad, ISM51, z_J0, (PSM67 ad)) H := hW
  refine z_putF (T := TX12) (N := 96) (ci := 12) (i := 0) (v := .ref (ad 34)) (I1 := ISM51) (J1 := z_J0) (P1 := (PSM69 ad)) hx hb hts zi_X12_init_X12 tyX12 tyX12_ok nmX12 hown hK hW hS hs_shSM68_0 rfl 57 (by decide) (hts (.fieldLink RX12 118 "PetrolBoardModel" "pourAt" "[I") (me_s (me_l (me_r (me_l (List.mem_of_getElem? (i := 19) rfl)))))) (fun _ h => h) rfl hname rfl rfl rfl (by first | rfl | exact congrArg _ z_up_s) (fun a b h ty => z_vP h ty) dX12_init_296 (fun H locs hz1 hW hS => ?_)
  have hz : H.size = ad 35 := hz1.trans hz
  refine lv_aload_n hx hb dX12_init_299 rfl (lv_at hl 0 rfl) ?_
  refine lv_sipush (v := 300) hx hb dX12_init_300 (by decide) ?_
  refine z_newa 35 ad (atype := .int) (ty := .int) (N' := 300) hx hb (hts (.arrayClass .int) (me_s (me_l (me_l (List.mem_of_getElem? (i := 3) rfl))))) rfl hK (by simp [z_tys]) hW hS hA hz.symm (fun _ _ => rfl) (fun _ => rfl) (by decide) rfl (Nat.le_of_ble_eq_true rfl) (Nat.le_of_ble_eq_true rfl) (Nat.le_of_ble_eq_true rfl) dX12_init_303 (fun H hz1 hW hS => ?_)
  have hz : H.size = ad 36 := hz1.trans ((congrArg (· + 1) hz).trans (had 1 _).symm)
  have hW : z_W _ A (shSM70, ad, ISM51, z_J0, (PSM69 ad)) H := hW
  refine z_putF (T := TX12) (N := 96) (ci := 12) (i := 0) (v := .ref (ad 35)) (I1 := ISM51) (J1 := z_J0) (P1 := (PSM71 ad)) hx hb hts zi_X12_init_X12 tyX12 tyX12_ok nmX12 hown hK hW hS hs_shSM70_0 rfl 58 (by decide) (hts (.fieldLink RX12 121 "PetrolBoardModel" "pourWho" "[I") (me_s (me_l (me_r (me_l (List.mem_of_getElem? (i := 20) rfl)))))) (fun _ h => h) rfl hname rfl rfl rfl (by first | rfl | exact congrArg _ z_up_s) (fun a b h ty => z_vP h ty) dX12_init_305 (fun H locs hz1 hW hS => ?_)
  have hz : H.size = ad 36 := hz1.trans hz
  refine lv_aload_n hx hb dX12_init_308 rfl (lv_at hl 0 rfl) ?_
  refine lv_sipush (v := 300) hx hb dX12_init_309 (by decide) ?_
  refine z_newa 36 ad (atype := .int) (ty := .int) (N' := 300) hx hb (hts (.arrayClass .int) (me_s (me_l (me_l (List.mem_of_getElem? (i := 3) rfl))))) rfl hK (by simp [z_tys]) hW hS hA hz.symm (fun _ _ => rfl) (fun _ => rfl) (by decide) rfl (Nat.le_of_ble_eq_true rfl) (Nat.le_of_ble_eq_true rfl) (Nat.le_of_ble_eq_true rfl) dX12_init_312 (fun H hz1 hW hS => ?_)
  have hz : H.size = ad 37 := hz1.trans ((congrArg (· + 1) hz).trans (had 1 _).symm)
  have hW : z_W _ A (shSM72, ad, ISM51, z_J0, (PSM71 ad)) H := hW
  refine z_putF (T := TX12) (N := 96) (ci := 12) (i := 0) (v := .ref (ad 36)) (I1 := ISM51) (J1 := z_J0) (P1 := (PSM73 ad)) hx hb hts zi_X12_init_X12 tyX12 tyX12_ok nmX12 hown hK hW hS hs_shSM72_0 rfl 59 (by decide) (hts (.fieldLink RX12 124 "PetrolBoardModel" "pourCoupon" "[I") (me_s (me_l (me_r (me_l (List.mem_of_getElem? (i := 21) rfl)))))) (fun _ h => h) rfl hname rfl rfl rfl (by first | rfl | exact congrArg _ z_up_s) (fun a b h ty => z_vP h ty) dX12_init_314 (fun H locs hz1 hW hS => ?_)
  have hz : H.size = ad 37 := hz1.trans hz
  refine lv_aload_n hx hb dX12_init_317 rfl (lv_at hl 0 rfl) ?_
  refine lv_sipush (v := 300) hx hb dX12_init_318 (by decide) ?_
  refine z_newa 37 ad (atype := .int) (ty := .int) (N' := 300) hx hb (hts (.arrayClass .int) (me_s (me_l (me_l (List.mem_of_getElem? (i := 3) rfl))))) rfl hK (by simp [z_tys]) hW hS hA hz.symm (fun _ _ => rfl) (fun _ => rfl) (by decide) rfl (Nat.le_of_ble_eq_true rfl) (Nat.le_of_ble_eq_true rfl) (Nat.le_of_ble_eq_true rfl) dX12_init_321 (fun H hz1 hW hS => ?_)
  have hz : H.size = ad 38 := hz1.trans ((congrArg (· + 1) hz).trans (had 1 _).symm)
  have hW : z_W _ A (shSM74, ad, ISM51, z_J0, (PSM73 ad)) H := hW
  refine z_putF (T := TX12) (N := 96) (ci := 12) (i := 0) (v := .ref (ad 37)) (I1 := ISM51) (J1 := z_J0) (P1 := (PSM75 ad)) hx hb hts zi_X12_init_X12 tyX12 tyX12_ok nmX12 hown hK hW hS hs_shSM74_0 rfl 60 (by decide) (hts (.fieldLink RX12 127 "PetrolBoardModel" "pourDay" "[I") (me_s (me_l (me_r (me_l (List.mem_of_getElem? (i := 22) rfl)))))) (fun _ h => h) rfl hname rfl rfl rfl (by first | rfl | exact congrArg _ z_up_s) (fun a b h ty => z_vP h ty) dX12_init_323 (fun H locs hz1 hW hS => ?_)
  have hz : H.size = ad 38 := hz1.trans hz
  refine lv_aload_n hx hb dX12_init_326 rfl (lv_at hl 0 rfl) ?_
  refine lv_sipush (v := 300) hx hb dX12_init_327 (by decide) ?_
  refine z_newa 38 ad (atype := .int) (ty := .int) (N' := 300) hx hb (hts (.arrayClass .int) (me_s (me_l (me_l (List.mem_of_getElem? (i := 3) rfl))))) rfl hK (by simp [z_tys]) hW hS hA hz.symm (fun _ _ => rfl) (fun _ => rfl) (by decide) rfl (Nat.le_of_ble_eq_true rfl) (Nat.le_of_ble_eq_true rfl) (Nat.le_of_ble_eq_true rfl) dX12_init_330 (fun H hz1 hW hS => ?_)
  have hz : H.size = ad 39 := hz1.trans ((congrArg (· + 1) hz).trans (had 1 _).symm)
  have hW : z_W _ A (shSM76, ad, ISM51, z_J0, (PSM75 ad)) H := hW
  refine z_putF (T := TX12) (N := 96) (ci := 12) (i := 0) (v := .ref (ad 38)) (I1 := ISM51) (J1 := z_J0) (P1 := (PSM77 ad)) hx hb hts zi_X12_init_X12 tyX12 tyX12_ok nmX12 hown hK hW hS hs_shSM76_0 rfl 61 (by decide) (hts (.fieldLink RX12 130 "PetrolBoardModel" "pourTenths" "[I") (me_s (me_l (me_r (me_l (List.mem_of_getElem? (i := 23) rfl)))))) (fun _ h => h) rfl hname rfl rfl rfl (by first | rfl | exact congrArg _ z_up_s) (fun a b h ty => z_vP h ty) dX12_init_332 (fun H locs hz1 hW hS => ?_)
  have hz : H.size = ad 39 := hz1.trans hz
  refine lv_aload_n hx hb dX12_init_335 rfl (lv_at hl 0 rfl) ?_
  refine lv_sipush (v := 300) hx hb dX12_init_336 (by decide) ?_
  refine z_newa 39 ad (atype := .int) (ty := .int) (N' := 300) hx hb (hts (.arrayClass .int) (me_s (me_l (me_l (List.mem_of_getElem? (i := 3) rfl))))) rfl hK (by simp [z_tys]) hW hS hA hz.symm (fun _ _ => rfl) (fun _ => rfl) (by decide) rfl (Nat.le_of_ble_eq_true rfl) (Nat.le_of_ble_eq_true rfl) (Nat.le_of_ble_eq_true rfl) dX12_init_339 (fun H hz1 hW hS => ?_)
  have hz : H.size = ad 40 := hz1.trans ((congrArg (· + 1) hz).trans (had 1 _).symm)
  have hW : z_W _ A (shSM78, ad, ISM51, z_J0, (PSM77 ad)) H := hW
  refine z_putF (T := TX12) (N := 96) (ci := 12) (i := 0) (v := .ref (ad 39)) (I1 := ISM51) (J1 := z_J0) (P1 := (PSM79 ad)) hx hb hts zi_X12_init_X12 tyX12 tyX12_ok nmX12 hown hK hW hS hs_shSM78_0 rfl 62 (by decide) (hq0_ (.fieldLink RX12 133 "PetrolBoardModel" "pourOwner" "[I") (List.mem_of_getElem? (i := 0) rfl)) (fun _ h => h) rfl hname rfl rfl rfl (by first | rfl | exact congrArg _ z_up_s) (fun a b h ty => z_vP h ty) dX12_init_341 (fun H locs hz1 hW hS => ?_)
  have hz : H.size = ad 40 := hz1.trans hz
  refine lv_aload_n hx hb dX12_init_344 rfl (lv_at hl 0 rfl) ?_
  refine lv_sipush (v := 300) hx hb dX12_init_345 (by decide) ?_
  refine z_newa 40 ad (atype := .int) (ty := .int) (N' := 300) hx hb (hts (.arrayClass .int) (me_s (me_l (me_l (List.mem_of_getElem? (i := 3) rfl))))) rfl hK (by simp [z_tys]) hW hS hA hz.symm (fun _ _ => rfl) (fun _ => rfl) (by decide) rfl (Nat.le_of_ble_eq_true rfl) (Nat.le_of_ble_eq_true rfl) (Nat.le_of_ble_eq_true rfl) dX12_init_348 (fun H hz1 hW hS => ?_)
  have hz : H.size = ad 41 := hz1.trans ((congrArg (· + 1) hz).trans (had 1 _).symm)
  have hW : z_W _ A (shSM80, ad, ISM51, z_J0, (PSM79 ad)) H := hW
  refine z_putF (T := TX12) (N := 96) (ci := 12) (i := 0) (v := .ref (ad 40)) (I1 := ISM51) (J1 := z_J0) (P1 := (PSM81 ad)) hx hb hts zi_X12_init_X12 tyX12 tyX12_ok nmX12 hown hK hW hS hs_shSM80_0 rfl 63 (by decide) (hq0_ (.fieldLink RX12 136 "PetrolBoardModel" "pourJudged" "[I") (List.mem_of_getElem? (i := 1) rfl)) (fun _ h => h) rfl hname rfl rfl rfl (by first | rfl | exact congrArg _ z_up_s) (fun a b h ty => z_vP h ty) dX12_init_350 (fun H locs hz1 hW hS => ?_)
  have hz : H.size = ad 41 := hz1.trans hz
  refine lv_aload_n hx hb dX12_init_353 rfl (lv_at hl 0 rfl) ?_
  refine lv_sipush (v := 300) hx hb dX12_init_354 (by decide) ?_
  refine z_newa 41 ad (atype := .int) (ty := .int) (N' := 300) hx hb (hts (.arrayClass .int) (me_s (me_l (me_l (List.mem_of_getElem? (i := 3) rfl))))) rfl hK (by simp [z_tys]) hW hS hA hz.symm (fun _ _ => rfl) (fun _ => rfl) (by decide) rfl (Nat.le_of_ble_eq_true rfl) (Nat.le_of_ble_eq_true rfl) (Nat.le_of_ble_eq_true rfl) dX12_init_357 (fun H hz1 hW hS => ?_)
  have hz : H.size = ad 42 := hz1.trans ((congrArg (· + 1) hz).trans (had 1 _).symm)
  have hW : z_W _ A (shSM82, ad, ISM51, z_J0, (PSM81 ad)) H := hW
  refine z_putF (T := TX12) (N := 96) (ci := 12) (i := 0) (v := .ref (ad 41)) (I1 := ISM51) (J1 := z_J0) (P1 := (PSM83 ad)) hx hb hts zi_X12_init_X12 tyX12 tyX12_ok nmX12 hown hK hW hS hs_shSM82_0 rfl 64 (by decide) (hq0_ (.fieldLink RX12 139 "PetrolBoardModel" "pourCome" "[I") (List.mem_of_getElem? (i := 2) rfl)) (fun _ h => h) rfl hname rfl rfl rfl (by first | rfl | exact congrArg _ z_up_s) (fun a b h ty => z_vP h ty) dX12_init_359 (fun H locs hz1 hW hS => ?_)
  have hz : H.size = ad 42 := hz1.trans hz
  refine lv_aload_n hx hb dX12_init_362 rfl (lv_at hl 0 rfl) ?_
  refine lv_sipush (v := 300) hx hb dX12_init_363 (by decide) ?_
  refine z_newa 42 ad (atype := .boolean) (ty := .boolean) (N' := 300) hx hb (hts (.arrayClass .boolean) (me_s (me_l (me_r (me_l (List.mem_of_getElem? (i := 17) rfl)))))) rfl hK (by simp [z_tys]) hW hS hA hz.symm (fun _ _ => rfl) (fun _ => rfl) (by decide) rfl (Nat.le_of_ble_eq_true rfl) (Nat.le_of_ble_eq_true rfl) (Nat.le_of_ble_eq_true rfl) dX12_init_366 (fun H hz1 hW hS => ?_)
  have hz : H.size = ad 43 := hz1.trans ((congrArg (· + 1) hz).trans (had 1 _).symm)
  have hW : z_W _ A (shSM84, ad, ISM51, z_J0, (PSM83 ad)) H := hW
  refine z_putF (T := TX12) (N := 96) (ci := 12) (i := 0) (v := .ref (ad 42)) (I1 := ISM51) (J1 := z_J0) (P1 := (PSM85 ad)) hx hb hts zi_X12_init_X12 tyX12 tyX12_ok nmX12 hown hK hW hS hs_shSM84_0 rfl 65 (by decide) (hq0_ (.fieldLink RX12 142 "PetrolBoardModel" "pourDyed" "[Z") (List.mem_of_getElem? (i := 3) rfl)) (fun _ h => h) rfl hname rfl rfl rfl (by first | rfl | exact congrArg _ z_up_s) (fun a b h ty => z_vP h ty) dX12_init_368 (fun H locs hz1 hW hS => ?_)
  have hz : H.size = ad 43 := hz1.trans hz
  refine lv_aload_n hx hb dX12_init_371 rfl (lv_at hl 0 rfl) ?_
  refine lv_bipush (v := 10) hx hb dX12_init_372 (by decide) ?_
  refine z_newa 43 ad (atype := .int) (ty := .int) (N' := 10) hx hb (hts (.arrayClass .int) (me_s (me_l (me_l (List.mem_of_getElem? (i := 3) rfl))))) rfl hK (by simp [z_tys]) hW hS hA hz.symm (fun _ _ => rfl) (fun _ => rfl) (by decide) rfl (Nat.le_of_ble_eq_true rfl) (Nat.le_of_ble_eq_true rfl) (Nat.le_of_ble_eq_true rfl) dX12_init_374 (fun H hz1 hW hS => ?_)
  have hz : H.size = ad 44 := hz1.trans ((congrArg (· + 1) hz).trans (had 1 _).symm)
  have hW : z_W _ A (shSM86, ad, ISM51, z_J0, (PSM85 ad)) H := hW
  refine z_putF (T := TX12) (N := 96) (ci := 12) (i := 0) (v := .ref (ad 43)) (I1 := ISM51) (J1 := z_J0) (P1 := (PSM87 ad)) hx hb hts zi_X12_init_X12 tyX12 tyX12_ok nmX12 hown hK hW hS hs_shSM86_0 rfl 66 (by decide) (hq0_ (.fieldLink RX12 145 "PetrolBoardModel" "givenMany" "[I") (List.mem_of_getElem? (i := 4) rfl)) (fun _ h => h) rfl hname rfl rfl rfl (by first | rfl | exact congrArg _ z_up_s) (fun a b h ty => z_vP h ty) dX12_init_376 (fun H locs hz1 hW hS => ?_)
  have hz : H.size = ad 44 := hz1.trans hz
  refine lv_aload_n hx hb dX12_init_379 rfl (lv_at hl 0 rfl) ?_
  refine lv_bipush (v := 10) hx hb dX12_init_380 (by decide) ?_
  refine z_newa 44 ad (atype := .int) (ty := .int) (N' := 10) hx hb (hts (.arrayClass .int) (me_s (me_l (me_l (List.mem_of_getElem? (i := 3) rfl))))) rfl hK (by simp [z_tys]) hW hS hA hz.symm (fun _ _ => rfl) (fun _ => rfl) (by decide) rfl (Nat.le_of_ble_eq_true rfl) (Nat.le_of_ble_eq_true rfl) (Nat.le_of_ble_eq_true rfl) dX12_init_382 (fun H hz1 hW hS => ?_)
  have hz : H.size = ad 45 := hz1.trans ((congrArg (· + 1) hz).trans (had 1 _).symm)
  have hW : z_W _ A (shSM88, ad, ISM51, z_J0, (PSM87 ad)) H := hW
  refine z_putF (T := TX12) (N := 96) (ci := 12) (i := 0) (v := .ref (ad 44)) (I1 := ISM51) (J1 := z_J0) (P1 := (PSM89 ad)) hx hb hts zi_X12_init_X12 tyX12 tyX12_ok nmX12 hown hK hW hS hs_shSM88_0 rfl 67 (by decide) (hq0_ (.fieldLink RX12 148 "PetrolBoardModel" "givenSum" "[I") (List.mem_of_getElem? (i := 5) rfl)) (fun _ h => h) rfl hname rfl rfl rfl (by first | rfl | exact congrArg _ z_up_s) (fun a b h ty => z_vP h ty) dX12_init_384 (fun H locs hz1 hW hS => ?_)
  have hz : H.size = ad 45 := hz1.trans hz
  refine lv_aload_n hx hb dX12_init_387 rfl (lv_at hl 0 rfl) ?_
  refine lv_sipush (v := 300) hx hb dX12_init_388 (by decide) ?_
  refine z_newa 45 ad (atype := .int) (ty := .int) (N' := 300) hx hb (hts (.arrayClass .int) (me_s (me_l (me_l (List.mem_of_getElem? (i := 3) rfl))))) rfl hK (by simp [z_tys]) hW hS hA hz.symm (fun _ _ => rfl) (fun _ => rfl) (by decide) rfl (Nat.le_of_ble_eq_true rfl) (Nat.le_of_ble_eq_true rfl) (Nat.le_of_ble_eq_true rfl) dX12_init_391 (fun H hz1 hW hS => ?_)
  have hz : H.size = ad 46 := hz1.trans ((congrArg (· + 1) hz).trans (had 1 _).symm)
  have hW : z_W _ A (shSM90, ad, ISM51, z_J0, (PSM89 ad)) H := hW
  refine z_putF (T := TX12) (N := 96) (ci := 12) (i := 0) (v := .ref (ad 45)) (I1 := ISM51) (J1 := z_J0) (P1 := (PSM91 ad)) hx hb hts zi_X12_init_X12 tyX12 tyX12_ok nmX12 hown hK hW hS hs_shSM90_0 rfl 68 (by decide) (hq0_ (.fieldLink RX12 151 "PetrolBoardModel" "given" "[I") (List.mem_of_getElem? (i := 6) rfl)) (fun _ h => h) rfl hname rfl rfl rfl (by first | rfl | exact congrArg _ z_up_s) (fun a b h ty => z_vP h ty) dX12_init_393 (fun H locs hz1 hW hS => ?_)
  have hz : H.size = ad 46 := hz1.trans hz
  refine lv_aload_n hx hb dX12_init_396 rfl (lv_at hl 0 rfl) ?_
  refine lv_sipush (v := 300) hx hb dX12_init_397 (by decide) ?_
  refine z_newa 46 ad (atype := .int) (ty := .int) (N' := 300) hx hb (hts (.arrayClass .int) (me_s (me_l (me_l (List.mem_of_getElem? (i := 3) rfl))))) rfl hK (by simp [z_tys]) hW hS hA hz.symm (fun _ _ => rfl) (fun _ => rfl) (by decide) rfl (Nat.le_of_ble_eq_true rfl) (Nat.le_of_ble_eq_true rfl) (Nat.le_of_ble_eq_true rfl) dX12_init_400 (fun H hz1 hW hS => ?_)
  have hz : H.size = ad 47 := hz1.trans ((congrArg (· + 1) hz).trans (had 1 _).symm)
  have hW : z_W _ A (shSM92, ad, ISM51, z_J0, (PSM91 ad)) H := hW
  refine z_putF (T := TX12) (N := 96) (ci := 12) (i := 0) (v := .ref (ad 46)) (I1 := ISM51) (J1 := z_J0) (P1 := (PSM93 ad)) hx hb hts zi_X12_init_X12 tyX12 tyX12_ok nmX12 hown hK hW hS hs_shSM92_0 rfl 69 (by decide) (hq0_ (.fieldLink RX12 154 "PetrolBoardModel" "givenCome" "[I") (List.mem_of_getElem? (i := 7) rfl)) (fun _ h => h) rfl hname rfl rfl rfl (by first | rfl | exact congrArg _ z_up_s) (fun a b h ty => z_vP h ty) dX12_init_402 (fun H locs hz1 hW hS => ?_)
  have hz : H.size = ad 47 := hz1.trans hz
  refine lv_aload_n hx hb dX12_init_405 rfl (lv_at hl 0 rfl) ?_
  refine lv_bipush (v := 10) hx hb dX12_init_406 (by decide) ?_
  refine z_newa 47 ad (atype := .int) (ty := .int) (N' := 10) hx hb (hts (.arrayClass .int) (me_s (me_l (me_l (List.mem_of_getElem? (i := 3) rfl))))) rfl hK (by simp [z_tys]) hW hS hA hz.symm (fun _ _ => rfl) (fun _ => rfl) (by decide) rfl (Nat.le_of_ble_eq_true rfl) (Nat.le_of_ble_eq_true rfl) (Nat.le_of_ble_eq_true rfl) dX12_init_408 (fun H hz1 hW hS => ?_)
  have hz : H.size = ad 48 := hz1.trans ((congrArg (· + 1) hz).trans (had 1 _).symm)
  have hW : z_W _ A (shSM94, ad, ISM51, z_J0, (PSM93 ad)) H := hW
  refine z_putF (T := TX12) (N := 96) (ci := 12) (i := 0) (v := .ref (ad 47)) (I1 := ISM51) (J1 := z_J0) (P1 := (PSM95 ad)) hx hb hts zi_X12_init_X12 tyX12 tyX12_ok nmX12 hown hK hW hS hs_shSM94_0 rfl 70 (by decide) (hq0_ (.fieldLink RX12 157 "PetrolBoardModel" "dipMany" "[I") (List.mem_of_getElem? (i := 8) rfl)) (fun _ h => h) rfl hname rfl rfl rfl (by first | rfl | exact congrArg _ z_up_s) (fun a b h ty => z_vP h ty) dX12_init_410 (fun H locs hz1 hW hS => ?_)
  have hz : H.size = ad 48 := hz1.trans hz
  refine lv_aload_n hx hb dX12_init_413 rfl (lv_at hl 0 rfl) ?_
  refine lv_sipush (v := 300) hx hb dX12_init_414 (by decide) ?_
  refine z_newa 48 ad (atype := .int) (ty := .int) (N' := 300) hx hb (hts (.arrayClass .int) (me_s (me_l (me_l (List.mem_of_getElem? (i := 3) rfl))))) rfl hK (by simp [z_tys]) hW hS hA hz.symm (fun _ _ => rfl) (fun _ => rfl) (by decide) rfl (Nat.le_of_ble_eq_true rfl) (Nat.le_of_ble_eq_true rfl) (Nat.le_of_ble_eq_true rfl) dX12_init_417 (fun H hz1 hW hS => ?_)
  have hz : H.size = ad 49 := hz1.trans ((congrArg (· + 1) hz).trans (had 1 _).symm)
  have hW : z_W _ A (shSM96, ad, ISM51, z_J0, (PSM95 ad)) H := hW
  refine z_putF (T := TX12) (N := 96) (ci := 12) (i := 0) (v := .ref (ad 48)) (I1 := ISM51) (J1 := z_J0) (P1 := (PSM97 ad)) hx hb hts zi_X12_init_X12 tyX12 tyX12_ok nmX12 hown hK hW hS hs_shSM96_0 rfl 71 (by decide) (hq0_ (.fieldLink RX12 160 "PetrolBoardModel" "dipTold" "[I") (List.mem_of_getElem? (i := 9) rfl)) (fun _ h => h) rfl hname rfl rfl rfl (by first | rfl | exact congrArg _ z_up_s) (fun a b h ty => z_vP h ty) dX12_init_419 (fun H locs hz1 hW hS => ?_)
  have hz : H.size = ad 49 := hz1.trans hz
  refine lv_aload_n hx hb dX12_init_422 rfl (lv_at hl 0 rfl) ?_
  refine lv_sipush (v := 300) hx hb dX12_init_423 (by decide) ?_
  refine z_newa 49 ad (atype := .int) (ty := .int) (N' := 300) hx hb (hts (.arrayClass .int) (me_s (me_l (me_l (List.mem_of_getElem? (i := 3) rfl))))) rfl hK (by simp [z_tys]) hW hS hA hz.symm (fun _ _ => rfl) (fun _ => rfl) (by decide) rfl (Nat.le_of_ble_eq_true rfl) (Nat.le_of_ble_eq_true rfl) (Nat.le_of_ble_eq_true rfl) dX12_init_426 (fun H hz1 hW hS => ?_)
  have hz : H.size = ad 50 := hz1.trans ((congrArg (· + 1) hz).trans (had 1 _).symm)
  have hW : z_W _ A (shSM98, ad, ISM51, z_J0, (PSM97 ad)) H := hW
  refine z_putF (T := TX12) (N := 96) (ci := 12) (i := 0) (v := .ref (ad 49)) (I1 := ISM51) (J1 := z_J0) (P1 := (PSM99 ad)) hx hb hts zi_X12_init_X12 tyX12 tyX12_ok nmX12 hown hK hW hS hs_shSM98_0 rfl 72 (by decide) (hq0_ (.fieldLink RX12 163 "PetrolBoardModel" "dipDay" "[I") (List.mem_of_getElem? (i := 10) rfl)) (fun _ h => h) rfl hname rfl rfl rfl (by first | rfl | exact congrArg _ z_up_s) (fun a b h ty => z_vP h ty) dX12_init_428 (fun H locs hz1 hW hS => ?_)
  have hz : H.size = ad 50 := hz1.trans hz
  refine lv_aload_n hx hb dX12_init_431 rfl (lv_at hl 0 rfl) ?_
  refine lv_sipush (v := 300) hx hb dX12_init_432 (by decide) ?_
  refine z_newa 50 ad (atype := .int) (ty := .int) (N' := 300) hx hb (hts (.arrayClass .int) (me_s (me_l (me_l (List.mem_of_getElem? (i := 3) rfl))))) rfl hK (by simp [z_tys]) hW hS hA hz.symm (fun _ _ => rfl) (fun _ => rfl) (by decide) rfl (Nat.le_of_ble_eq_true rfl) (Nat.le_of_ble_eq_true rfl) (Nat.le_of_ble_eq_true rfl) dX12_init_435 (fun H hz1 hW hS => ?_)
  have hz : H.size = ad 51 := hz1.trans ((congrArg (· + 1) hz).trans (had 1 _).symm)
  have hW : z_W _ A (shSM100, ad, ISM51, z_J0, (PSM99 ad)) H := hW
  refine z_putF (T := TX12) (N := 96) (ci := 12) (i := 0) (v := .ref (ad 50)) (I1 := ISM51) (J1 := z_J0) (P1 := (PSM101 ad)) hx hb hts zi_X12_init_X12 tyX12 tyX12_ok nmX12 hown hK hW hS hs_shSM100_0 rfl 73 (by decide) (hq0_ (.fieldLink RX12 166 "PetrolBoardModel" "dipCome" "[I") (List.mem_of_getElem? (i := 11) rfl)) (fun _ h => h) rfl hname rfl rfl rfl (by first | rfl | exact congrArg _ z_up_s) (fun a b h ty => z_vP h ty) dX12_init_437 (fun H locs hz1 hW hS => ?_)
  have hz : H.size = ad 51 := hz1.trans hz
  refine lv_aload_n hx hb dX12_init_440 rfl (lv_at hl 0 rfl) ?_
  refine lv_bipush (v := 30) hx hb dX12_init_441 (by decide) ?_
  refine z_newa 51 ad (atype := .int) (ty := .int) (N' := 30) hx hb (hts (.arrayClass .int) (me_s (me_l (me_l (List.mem_of_getElem? (i := 3) rfl))))) rfl hK (by simp [z_tys]) hW hS hA hz.symm (fun _ _ => rfl) (fun _ => rfl) (by decide) rfl (Nat.le_of_ble_eq_true rfl) (Nat.le_of_ble_eq_true rfl) (Nat.le_of_ble_eq_true rfl) dX12_init_443 (fun H hz1 hW hS => ?_)
  have hz : H.size = ad 52 := hz1.trans ((congrArg (· + 1) hz).trans (had 1 _).symm)
  have hW : z_W _ A (shSM102, ad, ISM51, z_J0, (PSM101 ad)) H := hW
  refine z_putF (T := TX12) (N := 96) (ci := 12) (i := 0) (v := .ref (ad 51)) (I1 := ISM51) (J1 := z_J0) (P1 := (PSM103 ad)) hx hb hts zi_X12_init_X12 tyX12 tyX12_ok nmX12 hown hK hW hS hs_shSM102_0 rfl 74 (by decide) (hq0_ (.fieldLink RX12 169 "PetrolBoardModel" "levels" "[I") (List.mem_of_getElem? (i := 12) rfl)) (fun _ h => h) rfl hname rfl rfl rfl (by first | rfl | exact congrArg _ z_up_s) (fun a b h ty => z_vP h ty) dX12_init_445 (fun H locs hz1 hW hS => ?_)
  have hz : H.size = ad 52 := hz1.trans hz
  refine lv_aload_n hx hb dX12_init_448 rfl (lv_at hl 0 rfl) ?_
  refine lv_iconst (v := 4) hx hb dX12_init_449 (by decide) ?_
  refine z_newa 52 ad (atype := .int) (ty := .int) (N' := 4) hx hb (hts (.arrayClass .int) (me_s (me_l (me_l (List.mem_of_getElem? (i := 3) rfl))))) rfl hK (by simp [z_tys]) hW hS hA hz.symm (fun _ _ => rfl) (fun _ => rfl) (by decide) rfl (Nat.le_of_ble_eq_true rfl) (Nat.le_of_ble_eq_true rfl) (Nat.le_of_ble_eq_true rfl) dX12_init_450 (fun H hz1 hW hS => ?_)
  have hz : H.size = ad 53 := hz1.trans ((congrArg (· + 1) hz).trans (had 1 _).symm)
  have hW : z_W _ A (shSM104, ad, ISM51, z_J0, (PSM103 ad)) H := hW
  refine z_putF (T := TX12) (N := 96) (ci := 12) (i := 0) (v := .ref (ad 52)) (I1 := ISM51) (J1 := z_J0) (P1 := (PSM105 ad)) hx hb hts zi_X12_init_X12 tyX12 tyX12_ok nmX12 hown hK hW hS hs_shSM104_0 rfl 76 (by decide) (hq0_ (.fieldLink RX12 172 "PetrolBoardModel" "loadsOf" "[I") (List.mem_of_getElem? (i := 13) rfl)) (fun _ h => h) rfl hname rfl rfl rfl (by first | rfl | exact congrArg _ z_up_s) (fun a b h ty => z_vP h ty) dX12_init_452 (fun H locs hz1 hW hS => ?_)
  have hz : H.size = ad 53 := hz1.trans hz
  refine lv_aload_n hx hb dX12_init_455 rfl (lv_at hl 0 rfl) ?_
  refine lv_bipush (v := 10) hx hb dX12_init_456 (by decide) ?_
  refine z_newa 53 ad (atype := .int) (ty := .int) (N' := 10) hx hb (hts (.arrayClass .int) (me_s (me_l (me_l (List.mem_of_getElem? (i := 3) rfl))))) rfl hK (by simp [z_tys]) hW hS hA hz.symm (fun _ _ => rfl) (fun _ => rfl) (by decide) rfl (Nat.le_of_ble_eq_true rfl) (Nat.le_of_ble_eq_true rfl) (Nat.le_of_ble_eq_true rfl) dX12_init_458 (fun H hz1 hW hS => ?_)
  have hz : H.size = ad 54 := hz1.trans ((congrArg (· + 1) hz).trans (had 1 _).symm)
  have hW : z_W _ A (shSM106, ad, ISM51, z_J0, (PSM105 ad)) H := hW
  refine z_putF (T := TX12) (N := 96) (ci := 12) (i := 0) (v := .ref (ad 53)) (I1 := ISM51) (J1 := z_J0) (P1 := (PSM107 ad)) hx hb hts zi_X12_init_X12 tyX12 tyX12_ok nmX12 hown hK hW hS hs_shSM106_0 rfl 77 (by decide) (hq0_ (.fieldLink RX12 175 "PetrolBoardModel" "wantOf" "[I") (List.mem_of_getElem? (i := 14) rfl)) (fun _ h => h) rfl hname rfl rfl rfl (by first | rfl | exact congrArg _ z_up_s) (fun a b h ty => z_vP h ty) dX12_init_460 (fun H locs hz1 hW hS => ?_)
  have hz : H.size = ad 54 := hz1.trans hz
  refine lv_aload_n hx hb dX12_init_463 rfl (lv_at hl 0 rfl) ?_
  refine lv_bipush (v := 40) hx hb dX12_init_464 (by decide) ?_
  refine z_newa 54 ad (atype := .int) (ty := .int) (N' := 40) hx hb (hts (.arrayClass .int) (me_s (me_l (me_l (List.mem_of_getElem? (i := 3) rfl))))) rfl hK (by simp [z_tys]) hW hS hA hz.symm (fun _ _ => rfl) (fun _ => rfl) (by decide) rfl (Nat.le_of_ble_eq_true rfl) (Nat.le_of_ble_eq_true rfl) (Nat.le_of_ble_eq_true rfl) dX12_init_466 (fun H hz1 hW hS => ?_)
  have hz : H.size = ad 55 := hz1.trans ((congrArg (· + 1) hz).trans (had 1 _).symm)
  have hW : z_W _ A (shSM108, ad, ISM51, z_J0, (PSM107 ad)) H := hW
  refine z_putF (T := TX12) (N := 96) (ci := 12) (i := 0) (v := .ref (ad 54)) (I1 := ISM51) (J1 := z_J0) (P1 := (PSM109 ad)) hx hb hts zi_X12_init_X12 tyX12 tyX12_ok nmX12 hown hK hW hS hs_shSM108_0 rfl 78 (by decide) (hq0_ (.fieldLink RX12 178 "PetrolBoardModel" "roadOf" "[I") (List.mem_of_getElem? (i := 15) rfl)) (fun _ h => h) rfl hname rfl rfl rfl (by first | rfl | exact congrArg _ z_up_s) (fun a b h ty => z_vP h ty) dX12_init_468 (fun H locs hz1 hW hS => ?_)
  have hz : H.size = ad 55 := hz1.trans hz
  refine lv_aload_n hx hb dX12_init_471 rfl (lv_at hl 0 rfl) ?_
  refine lv_sipush (v := 256) hx hb dX12_init_472 (by decide) ?_
  refine z_newa 55 ad (atype := .int) (ty := .int) (N' := 256) hx hb (hts (.arrayClass .int) (me_s (me_l (me_l (List.mem_of_getElem? (i := 3) rfl))))) rfl hK (by simp [z_tys]) hW hS hA hz.symm (fun _ _ => rfl) (fun _ => rfl) (by decide) rfl (Nat.le_of_ble_eq_true rfl) (Nat.le_of_ble_eq_true rfl) (Nat.le_of_ble_eq_true rfl) dX12_init_475 (fun H hz1 hW hS => ?_)
  have hz : H.size = ad 56 := hz1.trans ((congrArg (· + 1) hz).trans (had 1 _).symm)
  have hW : z_W _ A (shSM110, ad, ISM51, z_J0, (PSM109 ad)) H := hW
  refine z_putF (T := TX12) (N := 96) (ci := 12) (i := 0) (v := .ref (ad 55)) (I1 := ISM51) (J1 := z_J0) (P1 := (PSM111 ad)) hx hb hts zi_X12_init_X12 tyX12 tyX12_ok nmX12 hown hK hW hS hs_shSM110_0 rfl 79 (by decide) (hq0_ (.fieldLink RX12 181 "PetrolBoardModel" "room" "[I") (List.mem_of_getElem? (i := 16) rfl)) (fun _ h => h) rfl hname rfl rfl rfl (by first | rfl | exact congrArg _ z_up_s) (fun a b h ty => z_vP h ty) dX12_init_477 (fun H locs hz1 hW hS => ?_)
  have hz : H.size = ad 56 := hz1.trans hz
  refine lv_aload_n hx hb dX12_init_480 rfl (lv_at hl 0 rfl) ?_
  refine lv_sipush (v := 256) hx hb dX12_init_481 (by decide) ?_
  refine z_newa 56 ad (atype := .int) (ty := .int) (N' := 256) hx hb (hts (.arrayClass .int) (me_s (me_l (me_l (List.mem_of_getElem? (i := 3) rfl))))) rfl hK (by simp [z_tys]) hW hS hA hz.symm (fun _ _ => rfl) (fun _ => rfl) (by decide) rfl (Nat.le_of_ble_eq_true rfl) (Nat.le_of_ble_eq_true rfl) (Nat.le_of_ble_eq_true rfl) dX12_init_484 (fun H hz1 hW hS => ?_)
  have hz : H.size = ad 57 := hz1.trans ((congrArg (· + 1) hz).trans (had 1 _).symm)
  have hW : z_W _ A (shSM112, ad, ISM51, z_J0, (PSM111 ad)) H := hW
  refine z_putF (T := TX12) (N := 96) (ci := 12) (i := 0) (v := .ref (ad 56)) (I1 := ISM51) (J1 := z_J0) (P1 := (PSM113 ad)) hx hb hts zi_X12_init_X12 tyX12 tyX12_ok nmX12 hown hK hW hS hs_shSM112_0 rfl 80 (by decide) (hq0_ (.fieldLink RX12 184 "PetrolBoardModel" "miles" "[I") (List.mem_of_getElem? (i := 17) rfl)) (fun _ h => h) rfl hname rfl rfl rfl (by first | rfl | exact congrArg _ z_up_s) (fun a b h ty => z_vP h ty) dX12_init_486 (fun H locs hz1 hW hS => ?_)
  have hz : H.size = ad 57 := hz1.trans hz
  refine lv_aload_n hx hb dX12_init_489 rfl (lv_at hl 0 rfl) ?_
  refine lv_bipush (v := 16) hx hb dX12_init_490 (by decide) ?_
  refine z_newa 57 ad (atype := .int) (ty := .int) (N' := 16) hx hb (hts (.arrayClass .int) (me_s (me_l (me_l (List.mem_of_getElem? (i := 3) rfl))))) rfl hK (by simp [z_tys]) hW hS hA hz.symm (fun _ _ => rfl) (fun _ => rfl) (by decide) rfl (Nat.le_of_ble_eq_true rfl) (Nat.le_of_ble_eq_true rfl) (Nat.le_of_ble_eq_true rfl) dX12_init_492 (fun H hz1 hW hS => ?_)
  have hz : H.size = ad 58 := hz1.trans ((congrArg (· + 1) hz).trans (had 1 _).symm)
  have hW : z_W _ A (shSM114, ad, ISM51, z_J0, (PSM113 ad)) H := hW
  refine z_putF (T := TX12) (N := 96) (ci := 12) (i := 0) (v := .ref (ad 57)) (I1 := ISM51) (J1 := z_J0) (P1 := (PSM115 ad)) hx hb hts zi_X12_init_X12 tyX12 tyX12_ok nmX12 hown hK hW hS hs_shSM114_0 rfl 81 (by decide) (hq0_ (.fieldLink RX12 187 "PetrolBoardModel" "far" "[I") (List.mem_of_getElem? (i := 18) rfl)) (fun _ h => h) rfl hname rfl rfl rfl (by first | rfl | exact congrArg _ z_up_s) (fun a b h ty => z_vP h ty) dX12_init_494 (fun H locs hz1 hW hS => ?_)
  have hz : H.size = ad 58 := hz1.trans hz
  refine lv_aload_n hx hb dX12_init_497 rfl (lv_at hl 0 rfl) ?_
  refine lv_bipush (v := 16) hx hb dX12_init_498 (by decide) ?_
  refine z_newa 58 ad (atype := .int) (ty := .int) (N' := 16) hx hb (hts (.arrayClass .int) (me_s (me_l (me_l (List.mem_of_getElem? (i := 3) rfl))))) rfl hK (by simp [z_tys]) hW hS hA hz.symm (fun _ _ => rfl) (fun _ => rfl) (by decide) rfl (Nat.le_of_ble_eq_true rfl) (Nat.le_of_ble_eq_true rfl) (Nat.le_of_ble_eq_true rfl) dX12_init_500 (fun H hz1 hW hS => ?_)
  have hz : H.size = ad 59 := hz1.trans ((congrArg (· + 1) hz).trans (had 1 _).symm)
  have hW : z_W _ A (shSM116, ad, ISM51, z_J0, (PSM115 ad)) H := hW
  refine z_putF (T := TX12) (N := 96) (ci := 12) (i := 0) (v := .ref (ad 58)) (I1 := ISM51) (J1 := z_J0) (P1 := (PSM117 ad)) hx hb hts zi_X12_init_X12 tyX12 tyX12_ok nmX12 hown hK hW hS hs_shSM116_0 rfl 82 (by decide) (hq0_ (.fieldLink RX12 190 "PetrolBoardModel" "back" "[I") (List.mem_of_getElem? (i := 19) rfl)) (fun _ h => h) rfl hname rfl rfl rfl (by first | rfl | exact congrArg _ z_up_s) (fun a b h ty => z_vP h ty) dX12_init_502 (fun H locs hz1 hW hS => ?_)
  have hz : H.size = ad 59 := hz1.trans hz
  refine lv_aload_n hx hb dX12_init_505 rfl (lv_at hl 0 rfl) ?_
  refine lv_bipush (v := 60) hx hb dX12_init_506 (by decide) ?_
  refine z_newa 59 ad (atype := .int) (ty := .int) (N' := 60) hx hb (hts (.arrayClass .int) (me_s (me_l (me_l (List.mem_of_getElem? (i := 3) rfl))))) rfl hK (by simp [z_tys]) hW hS hA hz.symm (fun _ _ => rfl) (fun _ => rfl) (by decide) rfl (Nat.le_of_ble_eq_true rfl) (Nat.le_of_ble_eq_true rfl) (Nat.le_of_ble_eq_true rfl) dX12_init_508 (fun H hz1 hW hS => ?_)
  have hz : H.size = ad 60 := hz1.trans ((congrArg (· + 1) hz).trans (had 1 _).symm)
  have hW : z_W _ A (shSM118, ad, ISM51, z_J0, (PSM117 ad)) H := hW
  refine z_putF (T := TX12) (N := 96) (ci := 12) (i := 0) (v := .ref (ad 59)) (I1 := ISM51) (J1 := z_J0) (P1 := (PSM119 ad)) hx hb hts zi_X12_init_X12 tyX12 tyX12_ok nmX12 hown hK hW hS hs_shSM118_0 rfl 84 (by decide) (hq0_ (.fieldLink RX12 193 "PetrolBoardModel" "jWho" "[I") (List.mem_of_getElem? (i := 20) rfl)) (fun _ h => h) rfl hname rfl rfl rfl (by first | rfl | exact congrArg _ z_up_s) (fun a b h ty => z_vP h ty) dX12_init_510 (fun H locs hz1 hW hS => ?_)
  have hz : H.size = ad 60 := hz1.trans hz
  refine lv_aload_n hx hb dX12_init_513 rfl (lv_at hl 0 rfl) ?_
  refine lv_bipush (v := 60) hx hb dX12_init_514 (by decide) ?_
  refine z_newa 60 ad (atype := .int) (ty := .int) (N' := 60) hx hb (hts (.arrayClass .int) (me_s (me_l (me_l (List.mem_of_getElem? (i := 3) rfl))))) rfl hK (by simp [z_tys]) hW hS hA hz.symm (fun _ _ => rfl) (fun _ => rfl) (by decide) rfl (Nat.le_of_ble_eq_true rfl) (Nat.le_of_ble_eq_true rfl) (Nat.le_of_ble_eq_true rfl) dX12_init_516 (fun H hz1 hW hS => ?_)
  have hz : H.size = ad 61 := hz1.trans ((congrArg (· + 1) hz).trans (had 1 _).symm)
  have hW : z_W _ A (shSM120, ad, ISM51, z_J0, (PSM119 ad)) H := hW
  refine z_putF (T := TX12) (N := 96) (ci := 12) (i := 0) (v := .ref (ad 60)) (I1 := ISM51) (J1 := z_J0) (P1 := (PSM121 ad)) hx hb hts zi_X12_init_X12 tyX12 tyX12_ok nmX12 hown hK hW hS hs_shSM120_0 rfl 85 (by decide) (hq0_ (.fieldLink RX12 196 "PetrolBoardModel" "jMiles" "[I") (List.mem_of_getElem? (i := 21) rfl)) (fun _ h => h) rfl hname rfl rfl rfl (by first | rfl | exact congrArg _ z_up_s) (fun a b h ty => z_vP h ty) dX12_init_518 (fun H locs hz1 hW hS => ?_)
  have hz : H.size = ad 61 := hz1.trans hz
  refine lv_aload_n hx hb dX12_init_521 rfl (lv_at hl 0 rfl) ?_
  refine lv_bipush (v := 60) hx hb dX12_init_522 (by decide) ?_
  refine z_newa 61 ad (atype := .int) (ty := .int) (N' := 60) hx hb (hts (.arrayClass .int) (me_s (me_l (me_l (List.mem_of_getElem? (i := 3) rfl))))) rfl hK (by simp [z_tys]) hW hS hA hz.symm (fun _ _ => rfl) (fun _ => rfl) (by decide) rfl (Nat.le_of_ble_eq_true rfl) (Nat.le_of_ble_eq_true rfl) (Nat.le_of_ble_eq_true rfl) dX12_init_524 (fun H hz1 hW hS => ?_)
  have hz : H.size = ad 62 := hz1.trans ((congrArg (· + 1) hz).trans (had 1 _).symm)
  have hW : z_W _ A (shSM122, ad, ISM51, z_J0, (PSM121 ad)) H := hW
  refine z_putF (T := TX12) (N := 96) (ci := 12) (i := 0) (v := .ref (ad 61)) (I1 := ISM51) (J1 := z_J0) (P1 := (PSM123 ad)) hx hb hts zi_X12_init_X12 tyX12 tyX12_ok nmX12 hown hK hW hS hs_shSM122_0 rfl 86 (by decide) (hq0_ (.fieldLink RX12 199 "PetrolBoardModel" "jPeople" "[I") (List.mem_of_getElem? (i := 22) rfl)) (fun _ h => h) rfl hname rfl rfl rfl (by first | rfl | exact congrArg _ z_up_s) (fun a b h ty => z_vP h ty) dX12_init_526 (fun H locs hz1 hW hS => ?_)
  have hz : H.size = ad 62 := hz1.trans hz
  refine lv_aload_n hx hb dX12_init_529 rfl (lv_at hl 0 rfl) ?_
  refine lv_bipush (v := 60) hx hb dX12_init_530 (by decide) ?_
  refine z_newa 62 ad (atype := .int) (ty := .int) (N' := 60) hx hb (hts (.arrayClass .int) (me_s (me_l (me_l (List.mem_of_getElem? (i := 3) rfl))))) rfl hK (by simp [z_tys]) hW hS hA hz.symm (fun _ _ => rfl) (fun _ => rfl) (by decide) rfl (Nat.le_of_ble_eq_true rfl) (Nat.le_of_ble_eq_true rfl) (Nat.le_of_ble_eq_true rfl) dX12_init_532 (fun H hz1 hW hS => ?_)
  have hz : H.size = ad 63 := hz1.trans ((congrArg (· + 1) hz).trans (had 1 _).symm)
  have hW : z_W _ A (shSM124, ad, ISM51, z_J0, (PSM123 ad)) H := hW
  refine z_putF (T := TX12) (N := 96) (ci := 12) (i := 0) (v := .ref (ad 62)) (I1 := ISM51) (J1 := z_J0) (P1 := (PSM125 ad)) hx hb hts zi_X12_init_X12 tyX12 tyX12_ok nmX12 hown hK hW hS hs_shSM124_0 rfl 87 (by decide) (hq0_ (.fieldLink RX12 202 "PetrolBoardModel" "jReason" "[I") (List.mem_of_getElem? (i := 23) rfl)) (fun _ h => h) rfl hname rfl rfl rfl (by first | rfl | exact congrArg _ z_up_s) (fun a b h ty => z_vP h ty) dX12_init_534 (fun H locs hz1 hW hS => ?_)
  have hz : H.size = ad 63 := hz1.trans hz
  refine lv_aload_n hx hb dX12_init_537 rfl (lv_at hl 0 rfl) ?_
  refine lv_bipush (v := 60) hx hb dX12_init_538 (by decide) ?_
  refine z_newa 63 ad (atype := .int) (ty := .int) (N' := 60) hx hb (hts (.arrayClass .int) (me_s (me_l (me_l (List.mem_of_getElem? (i := 3) rfl))))) rfl hK (by simp [z_tys]) hW hS hA hz.symm (fun _ _ => rfl) (fun _ => rfl) (by decide) rfl (Nat.le_of_ble_eq_true rfl) (Nat.le_of_ble_eq_true rfl) (Nat.le_of_ble_eq_true rfl) dX12_init_540 (fun H hz1 hW hS => ?_)
  have hz : H.size = ad 64 := hz1.trans ((congrArg (· + 1) hz).trans (had 1 _).symm)
  have hW : z_W _ A (shSM126, ad, ISM51, z_J0, (PSM125 ad)) H := hW
  refine z_putF (T := TX12) (N := 96) (ci := 12) (i := 0) (v := .ref (ad 63)) (I1 := ISM51) (J1 := z_J0) (P1 := (PSM127 ad)) hx hb hts zi_X12_init_X12 tyX12 tyX12_ok nmX12 hown hK hW hS hs_shSM126_0 rfl 88 (by decide) (hq1_ (.fieldLink RX12 205 "PetrolBoardModel" "jDay" "[I") (List.mem_of_getElem? (i := 0) rfl)) (fun _ h => h) rfl hname rfl rfl rfl (by first | rfl | exact congrArg _ z_up_s) (fun a b h ty => z_vP h ty) dX12_init_542 (fun H locs hz1 hW hS => ?_)
  have hz : H.size = ad 64 := hz1.trans hz
  refine lv_aload_n hx hb dX12_init_545 rfl (lv_at hl 0 rfl) ?_
  refine lv_bipush (v := 60) hx hb dX12_init_546 (by decide) ?_
  refine z_newa 64 ad (atype := .int) (ty := .int) (N' := 60) hx hb (hts (.arrayClass .int) (me_s (me_l (me_l (List.mem_of_getElem? (i := 3) rfl))))) rfl hK (by simp [z_tys]) hW hS hA hz.symm (fun _ _ => rfl) (fun _ => rfl) (by decide) rfl (Nat.le_of_ble_eq_true rfl) (Nat.le_of_ble_eq_true rfl) (Nat.le_of_ble_eq_true rfl) dX12_init_548 (fun H hz1 hW hS => ?_)
  have hz : H.size = ad 65 := hz1.trans ((congrArg (· + 1) hz).trans (had 1 _).symm)
  have hW : z_W _ A (shSM128, ad, ISM51, z_J0, (PSM127 ad)) H := hW
  refine z_putF (T := TX12) (N := 96) (ci := 12) (i := 0) (v := .ref (ad 64)) (I1 := ISM51) (J1 := z_J0) (P1 := (PSM129 ad)) hx hb hts zi_X12_init_X12 tyX12 tyX12_ok nmX12 hown hK hW hS hs_shSM128_0 rfl 89 (by decide) (hq1_ (.fieldLink RX12 208 "PetrolBoardModel" "jWay" "[I") (List.mem_of_getElem? (i := 1) rfl)) (fun _ h => h) rfl hname rfl rfl rfl (by first | rfl | exact congrArg _ z_up_s) (fun a b h ty => z_vP h ty) dX12_init_550 (fun H locs hz1 hW hS => ?_)
  have hz : H.size = ad 65 := hz1.trans hz
  refine lv_aload_n hx hb dX12_init_553 rfl (lv_at hl 0 rfl) ?_
  refine lv_bipush (v := 60) hx hb dX12_init_554 (by decide) ?_
  refine z_newa 65 ad (atype := .int) (ty := .int) (N' := 60) hx hb (hts (.arrayClass .int) (me_s (me_l (me_l (List.mem_of_getElem? (i := 3) rfl))))) rfl hK (by simp [z_tys]) hW hS hA hz.symm (fun _ _ => rfl) (fun _ => rfl) (by decide) rfl (Nat.le_of_ble_eq_true rfl) (Nat.le_of_ble_eq_true rfl) (Nat.le_of_ble_eq_true rfl) dX12_init_556 (fun H hz1 hW hS => ?_)
  have hz : H.size = ad 66 := hz1.trans ((congrArg (· + 1) hz).trans (had 1 _).symm)
  have hW : z_W _ A (shSM130, ad, ISM51, z_J0, (PSM129 ad)) H := hW
  refine z_putF (T := TX12) (N := 96) (ci := 12) (i := 0) (v := .ref (ad 65)) (I1 := ISM51) (J1 := z_J0) (P1 := (PSM131 ad)) hx hb hts zi_X12_init_X12 tyX12 tyX12_ok nmX12 hown hK hW hS hs_shSM130_0 rfl 90 (by decide) (hq1_ (.fieldLink RX12 211 "PetrolBoardModel" "jAsked" "[I") (List.mem_of_getElem? (i := 2) rfl)) (fun _ h => h) rfl hname rfl rfl rfl (by first | rfl | exact congrArg _ z_up_s) (fun a b h ty => z_vP h ty) dX12_init_558 (fun H locs hz1 hW hS => ?_)
  have hz : H.size = ad 66 := hz1.trans hz
  refine lv_aload_n hx hb dX12_init_561 rfl (lv_at hl 0 rfl) ?_
  refine lv_bipush (v := 60) hx hb dX12_init_562 (by decide) ?_
  refine z_newa 66 ad (atype := .int) (ty := .int) (N' := 60) hx hb (hts (.arrayClass .int) (me_s (me_l (me_l (List.mem_of_getElem? (i := 3) rfl))))) rfl hK (by simp [z_tys]) hW hS hA hz.symm (fun _ _ => rfl) (fun _ => rfl) (by decide) rfl (Nat.le_of_ble_eq_true rfl) (Nat.le_of_ble_eq_true rfl) (Nat.le_of_ble_eq_true rfl) dX12_init_564 (fun H hz1 hW hS => ?_)
  have hz : H.size = ad 67 := hz1.trans ((congrArg (· + 1) hz).trans (had 1 _).symm)
  have hW : z_W _ A (shSM132, ad, ISM51, z_J0, (PSM131 ad)) H := hW
  refine z_putF (T := TX12) (N := 96) (ci := 12) (i := 0) (v := .ref (ad 66)) (I1 := ISM51) (J1 := z_J0) (P1 := (PSM133 ad)) hx hb hts zi_X12_init_X12 tyX12 tyX12_ok nmX12 hown hK hW hS hs_shSM132_0 rfl 91 (by decide) (hq1_ (.fieldLink RX12 214 "PetrolBoardModel" "jGranted" "[I") (List.mem_of_getElem? (i := 3) rfl)) (fun _ h => h) rfl hname rfl rfl rfl (by first | rfl | exact congrArg _ z_up_s) (fun a b h ty => z_vP h ty) dX12_init_566 (fun H locs hz1 hW hS => ?_)
  have hz : H.size = ad 67 := hz1.trans hz
  refine lv_aload_n hx hb dX12_init_569 rfl (lv_at hl 0 rfl) ?_
  refine lv_bipush (v := 60) hx hb dX12_init_570 (by decide) ?_
  refine z_newa 67 ad (atype := .int) (ty := .int) (N' := 60) hx hb (hts (.arrayClass .int) (me_s (me_l (me_l (List.mem_of_getElem? (i := 3) rfl))))) rfl hK (by simp [z_tys]) hW hS hA hz.symm (fun _ _ => rfl) (fun _ => rfl) (by decide) rfl (Nat.le_of_ble_eq_true rfl) (Nat.le_of_ble_eq_true rfl) (Nat.le_of_ble_eq_true rfl) dX12_init_572 (fun H hz1 hW hS => ?_)
  have hz : H.size = ad 68 := hz1.trans ((congrArg (· + 1) hz).trans (had 1 _).symm)
  have hW : z_W _ A (shSM134, ad, ISM51, z_J0, (PSM133 ad)) H := hW
  refine z_putF (T := TX12) (N := 96) (ci := 12) (i := 0) (v := .ref (ad 67)) (I1 := ISM51) (J1 := z_J0) (P1 := (PSM135 ad)) hx hb hts zi_X12_init_X12 tyX12 tyX12_ok nmX12 hown hK hW hS hs_shSM134_0 rfl 92 (by decide) (hq1_ (.fieldLink RX12 217 "PetrolBoardModel" "jFirst" "[I") (List.mem_of_getElem? (i := 4) rfl)) (fun _ h => h) rfl hname rfl rfl rfl (by first | rfl | exact congrArg _ z_up_s) (fun a b h ty => z_vP h ty) dX12_init_574 (fun H locs hz1 hW hS => ?_)
  have hz : H.size = ad 68 := hz1.trans hz
  refine lv_aload_n hx hb dX12_init_577 rfl (lv_at hl 0 rfl) ?_
  refine lv_bipush (v := 12) hx hb dX12_init_578 (by decide) ?_
  refine z_newa 68 ad (atype := .int) (ty := .int) (N' := 12) hx hb (hts (.arrayClass .int) (me_s (me_l (me_l (List.mem_of_getElem? (i := 3) rfl))))) rfl hK (by simp [z_tys]) hW hS hA hz.symm (fun _ _ => rfl) (fun _ => rfl) (by decide) rfl (Nat.le_of_ble_eq_true rfl) (Nat.le_of_ble_eq_true rfl) (Nat.le_of_ble_eq_true rfl) dX12_init_580 (fun H hz1 hW hS => ?_)
  have hz : H.size = ad 69 := hz1.trans ((congrArg (· + 1) hz).trans (had 1 _).symm)
  have hW : z_W _ A (shSM136, ad, ISM51, z_J0, (PSM135 ad)) H := hW
  refine z_putF (T := TX12) (N := 96) (ci := 12) (i := 0) (v := .ref (ad 68)) (I1 := ISM51) (J1 := z_J0) (P1 := (PSM137 ad)) hx hb hts zi_X12_init_X12 tyX12 tyX12_ok nmX12 hown hK hW hS hs_shSM136_0 rfl 93 (by decide) (hq1_ (.fieldLink RX12 220 "PetrolBoardModel" "pool" "[I") (List.mem_of_getElem? (i := 5) rfl)) (fun _ h => h) rfl hname rfl rfl rfl (by first | rfl | exact congrArg _ z_up_s) (fun a b h ty => z_vP h ty) dX12_init_582 (fun H locs hz1 hW hS => ?_)
  have hz : H.size = ad 69 := hz1.trans hz
  refine lv_aload_n hx hb dX12_init_585 rfl (lv_at hl 0 rfl) ?_
  refine lv_bipush (v := 30) hx hb dX12_init_586 (by decide) ?_
  refine z_newa 69 ad (atype := .int) (ty := .int) (N' := 30) hx hb (hts (.arrayClass .int) (me_s (me_l (me_l (List.mem_of_getElem? (i := 3) rfl))))) rfl hK (by simp [z_tys]) hW hS hA hz.symm (fun _ _ => rfl) (fun _ => rfl) (by decide) rfl (Nat.le_of_ble_eq_true rfl) (Nat.le_of_ble_eq_true rfl) (Nat.le_of_ble_eq_true rfl) dX12_init_588 (fun H hz1 hW hS => ?_)
  have hz : H.size = ad 70 := hz1.trans ((congrArg (· + 1) hz).trans (had 1 _).symm)
  have hW : z_W _ A (shSM138, ad, ISM51, z_J0, (PSM137 ad)) H := hW
  refine z_putF (T := TX12) (N := 96) (ci := 12) (i := 0) (v := .ref (ad 69)) (I1 := ISM51) (J1 := z_J0) (P1 := (PSM139 ad)) hx hb hts zi_X12_init_X12 tyX12 tyX12_ok nmX12 hown hK hW hS hs_shSM138_0 rfl 94 (by decide) (hq1_ (.fieldLink RX12 223 "PetrolBoardModel" "deal" "[I") (List.mem_of_getElem? (i := 6) rfl)) (fun _ h => h) rfl hname rfl rfl rfl (by first | rfl | exact congrArg _ z_up_s) (fun a b h ty => z_vP h ty) dX12_init_590 (fun H locs hz1 hW hS => ?_)
  have hz : H.size = ad 70 := hz1.trans hz
  refine lv_aload_n hx hb dX12_init_593 rfl (lv_at hl 0 rfl) ?_
  refine lv_bipush (v := 30) hx hb dX12_init_594 (by decide) ?_
  refine z_newa 70 ad (atype := .boolean) (ty := .boolean) (N' := 30) hx hb (hts (.arrayClass .boolean) (me_s (me_l (me_r (me_l (List.mem_of_getElem? (i := 17) rfl)))))) rfl hK (by simp [z_tys]) hW hS hA hz.symm (fun _ _ => rfl) (fun _ => rfl) (by decide) rfl (Nat.le_of_ble_eq_true rfl) (Nat.le_of_ble_eq_true rfl) (Nat.le_of_ble_eq_true rfl) dX12_init_596 (fun H hz1 hW hS => ?_)
  have hz : H.size = ad 71 := hz1.trans ((congrArg (· + 1) hz).trans (had 1 _).symm)
  have hW : z_W _ A (shSM140, ad, ISM51, z_J0, (PSM139 ad)) H := hW
  refine z_putF (T := TX12) (N := 96) (ci := 12) (i := 0) (v := .ref (ad 70)) (I1 := ISM51) (J1 := z_J0) (P1 := (PSM141 ad)) hx hb hts zi_X12_init_X12 tyX12 tyX12_ok nmX12 hown hK hW hS hs_shSM140_0 rfl 95 (by decide) (hq1_ (.fieldLink RX12 226 "PetrolBoardModel" "isDealt" "[Z") (List.mem_of_getElem? (i := 7) rfl)) (fun _ h => h) rfl hname rfl rfl rfl (by first | rfl | exact congrArg _ z_up_s) (fun a b h ty => z_vP h ty) dX12_init_598 (fun H locs hz1 hW hS => ?_)
  have hz : H.size = ad 71 := hz1.trans hz
  exact z_cret hx hb hr hK hS (Nat.le_of_ble_eq_true rfl) (Nat.le_of_ble_eq_true rfl) hlocks dX12_init_601 (hz.trans ((had 70 1).trans (congrArg (· + 70) hz0.symm))) hW
