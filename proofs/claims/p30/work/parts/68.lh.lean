theorem dL_law_192 : decode cL_law 192 = .ok (.aload_n 1, 1) := z_dd_43 (by decide +kernel)
theorem dL_law_193 : decode cL_law 193 = .ok (.aload_n 0, 1) := z_dd_42 (by decide +kernel)
theorem dL_law_194 : decode cL_law 194 = .ok (.iload_n 3, 1) := z_dd_29 (by decide +kernel)
theorem dL_law_195 : decode cL_law 195 = .ok (.iconst 1, 1) := z_dd_4 (by decide +kernel)
theorem dL_law_196 : decode cL_law 196 = .ok (.iadd, 1) := z_dd_96 (by decide +kernel)
theorem dL_law_197 : decode cL_law 197 = .ok (.iaload, 1) := z_dd_46 (by decide +kernel)
theorem dL_law_198 : decode cL_law 198 = .ok (.invokevirtual 13, 3) := z_dd_182 (by decide +kernel)
theorem dL_law_201 : decode cL_law 201 = .ok (.pop, 1) := z_dd_87 (by decide +kernel)
theorem dL_law_202 : decode cL_law 202 = .ok (.aload_n 2, 1) := z_dd_44 (by decide +kernel)
theorem dL_law_203 : decode cL_law 203 = .ok (.aload_n 0, 1) := z_dd_42 (by decide +kernel)
theorem dL_law_204 : decode cL_law 204 = .ok (.iload_n 3, 1) := z_dd_29 (by decide +kernel)
theorem dL_law_205 : decode cL_law 205 = .ok (.iconst 1, 1) := z_dd_4 (by decide +kernel)
theorem dL_law_206 : decode cL_law 206 = .ok (.iadd, 1) := z_dd_96 (by decide +kernel)
theorem dL_law_207 : decode cL_law 207 = .ok (.iaload, 1) := z_dd_46 (by decide +kernel)
theorem dL_law_208 : decode cL_law 208 = .ok (.invokevirtual 17, 3) := z_dd_182 (by decide +kernel)
theorem dL_law_211 : decode cL_law 211 = .ok (.pop, 1) := z_dd_87 (by decide +kernel)
theorem dL_law_212 : decode cL_law 212 = .ok (.goto 1296, 3) := z_dd_167 (by decide +kernel)
theorem dL_law_215 : decode cL_law 215 = .ok (.aload_n 1, 1) := z_dd_43 (by decide +kernel)
theorem dL_law_216 : decode cL_law 216 = .ok (.aload_n 0, 1) := z_dd_42 (by decide +kernel)
theorem dL_law_217 : decode cL_law 217 = .ok (.iload_n 3, 1) := z_dd_29 (by decide +kernel)
theorem dL_law_218 : decode cL_law 218 = .ok (.iconst 1, 1) := z_dd_4 (by decide +kernel)
theorem dL_law_219 : decode cL_law 219 = .ok (.iadd, 1) := z_dd_96 (by decide +kernel)
theorem dL_law_220 : decode cL_law 220 = .ok (.iaload, 1) := z_dd_46 (by decide +kernel)
theorem dL_law_221 : decode cL_law 221 = .ok (.aload_n 0, 1) := z_dd_42 (by decide +kernel)
theorem dL_law_222 : decode cL_law 222 = .ok (.iload_n 3, 1) := z_dd_29 (by decide +kernel)
theorem dL_law_223 : decode cL_law 223 = .ok (.iconst 2, 1) := z_dd_5 (by decide +kernel)
theorem dL_law_224 : decode cL_law 224 = .ok (.iadd, 1) := z_dd_96 (by decide +kernel)
theorem dL_law_225 : decode cL_law 225 = .ok (.iaload, 1) := z_dd_46 (by decide +kernel)
theorem dL_law_226 : decode cL_law 226 = .ok (.aload_n 0, 1) := z_dd_42 (by decide +kernel)
theorem dL_law_227 : decode cL_law 227 = .ok (.iload_n 3, 1) := z_dd_29 (by decide +kernel)
theorem dL_law_228 : decode cL_law 228 = .ok (.iconst 3, 1) := z_dd_6 (by decide +kernel)
theorem dL_law_229 : decode cL_law 229 = .ok (.iadd, 1) := z_dd_96 (by decide +kernel)
theorem dL_law_230 : decode cL_law 230 = .ok (.iaload, 1) := z_dd_46 (by decide +kernel)
theorem dL_law_231 : decode cL_law 231 = .ok (.aload_n 0, 1) := z_dd_42 (by decide +kernel)
theorem dL_law_232 : decode cL_law 232 = .ok (.iload_n 3, 1) := z_dd_29 (by decide +kernel)
theorem dL_law_233 : decode cL_law 233 = .ok (.iconst 4, 1) := z_dd_7 (by decide +kernel)
theorem dL_law_234 : decode cL_law 234 = .ok (.iadd, 1) := z_dd_96 (by decide +kernel)
theorem dL_law_235 : decode cL_law 235 = .ok (.iaload, 1) := z_dd_46 (by decide +kernel)
theorem dL_law_236 : decode cL_law 236 = .ok (.aload_n 0, 1) := z_dd_42 (by decide +kernel)
theorem dL_law_237 : decode cL_law 237 = .ok (.iload_n 3, 1) := z_dd_29 (by decide +kernel)
theorem dL_law_238 : decode cL_law 238 = .ok (.iconst 5, 1) := z_dd_8 (by decide +kernel)
theorem dL_law_239 : decode cL_law 239 = .ok (.iadd, 1) := z_dd_96 (by decide +kernel)
theorem dL_law_240 : decode cL_law 240 = .ok (.iaload, 1) := z_dd_46 (by decide +kernel)
theorem dL_law_241 : decode cL_law 241 = .ok (.invokevirtual 18, 3) := z_dd_182 (by decide +kernel)
theorem dL_law_244 : decode cL_law 244 = .ok (.pop, 1) := z_dd_87 (by decide +kernel)
theorem dL_law_245 : decode cL_law 245 = .ok (.aload_n 2, 1) := z_dd_44 (by decide +kernel)
theorem dL_law_246 : decode cL_law 246 = .ok (.aload_n 0, 1) := z_dd_42 (by decide +kernel)
theorem dL_law_247 : decode cL_law 247 = .ok (.iload_n 3, 1) := z_dd_29 (by decide +kernel)
theorem dL_law_248 : decode cL_law 248 = .ok (.iconst 1, 1) := z_dd_4 (by decide +kernel)
theorem dL_law_249 : decode cL_law 249 = .ok (.iadd, 1) := z_dd_96 (by decide +kernel)
theorem dL_law_250 : decode cL_law 250 = .ok (.iaload, 1) := z_dd_46 (by decide +kernel)
theorem dL_law_251 : decode cL_law 251 = .ok (.aload_n 0, 1) := z_dd_42 (by decide +kernel)
theorem dL_law_252 : decode cL_law 252 = .ok (.iload_n 3, 1) := z_dd_29 (by decide +kernel)
theorem dL_law_253 : decode cL_law 253 = .ok (.iconst 2, 1) := z_dd_5 (by decide +kernel)
theorem dL_law_254 : decode cL_law 254 = .ok (.iadd, 1) := z_dd_96 (by decide +kernel)
theorem dL_law_255 : decode cL_law 255 = .ok (.iaload, 1) := z_dd_46 (by decide +kernel)
theorem dL_law_256 : decode cL_law 256 = .ok (.aload_n 0, 1) := z_dd_42 (by decide +kernel)
theorem dL_law_257 : decode cL_law 257 = .ok (.iload_n 3, 1) := z_dd_29 (by decide +kernel)
theorem dL_law_258 : decode cL_law 258 = .ok (.iconst 3, 1) := z_dd_6 (by decide +kernel)
theorem dL_law_259 : decode cL_law 259 = .ok (.iadd, 1) := z_dd_96 (by decide +kernel)
theorem dL_law_260 : decode cL_law 260 = .ok (.iaload, 1) := z_dd_46 (by decide +kernel)
theorem dL_law_261 : decode cL_law 261 = .ok (.aload_n 0, 1) := z_dd_42 (by decide +kernel)
theorem dL_law_262 : decode cL_law 262 = .ok (.iload_n 3, 1) := z_dd_29 (by decide +kernel)
theorem dL_law_263 : decode cL_law 263 = .ok (.iconst 4, 1) := z_dd_7 (by decide +kernel)
theorem dL_law_264 : decode cL_law 264 = .ok (.iadd, 1) := z_dd_96 (by decide +kernel)
theorem dL_law_265 : decode cL_law 265 = .ok (.iaload, 1) := z_dd_46 (by decide +kernel)
theorem dL_law_266 : decode cL_law 266 = .ok (.aload_n 0, 1) := z_dd_42 (by decide +kernel)
theorem dL_law_267 : decode cL_law 267 = .ok (.iload_n 3, 1) := z_dd_29 (by decide +kernel)
theorem dL_law_268 : decode cL_law 268 = .ok (.iconst 5, 1) := z_dd_8 (by decide +kernel)
theorem dL_law_269 : decode cL_law 269 = .ok (.iadd, 1) := z_dd_96 (by decide +kernel)
theorem dL_law_270 : decode cL_law 270 = .ok (.iaload, 1) := z_dd_46 (by decide +kernel)
theorem dL_law_271 : decode cL_law 271 = .ok (.invokevirtual 22, 3) := z_dd_182 (by decide +kernel)
theorem dL_law_274 : decode cL_law 274 = .ok (.pop, 1) := z_dd_87 (by decide +kernel)
theorem dL_law_275 : decode cL_law 275 = .ok (.goto 1233, 3) := z_dd_167 (by decide +kernel)
theorem dL_law_278 : decode cL_law 278 = .ok (.aload_n 1, 1) := z_dd_43 (by decide +kernel)
theorem dL_law_279 : decode cL_law 279 = .ok (.aload_n 0, 1) := z_dd_42 (by decide +kernel)
theorem dL_law_280 : decode cL_law 280 = .ok (.iload_n 3, 1) := z_dd_29 (by decide +kernel)
theorem dL_law_281 : decode cL_law 281 = .ok (.iconst 1, 1) := z_dd_4 (by decide +kernel)
theorem dL_law_282 : decode cL_law 282 = .ok (.iadd, 1) := z_dd_96 (by decide +kernel)
theorem dL_law_283 : decode cL_law 283 = .ok (.iaload, 1) := z_dd_46 (by decide +kernel)
theorem dL_law_284 : decode cL_law 284 = .ok (.aload_n 0, 1) := z_dd_42 (by decide +kernel)
theorem dL_law_285 : decode cL_law 285 = .ok (.iload_n 3, 1) := z_dd_29 (by decide +kernel)
theorem dL_law_286 : decode cL_law 286 = .ok (.iconst 2, 1) := z_dd_5 (by decide +kernel)
theorem dL_law_287 : decode cL_law 287 = .ok (.iadd, 1) := z_dd_96 (by decide +kernel)
theorem dL_law_288 : decode cL_law 288 = .ok (.iaload, 1) := z_dd_46 (by decide +kernel)
theorem dL_law_289 : decode cL_law 289 = .ok (.aload_n 0, 1) := z_dd_42 (by decide +kernel)
theorem dL_law_290 : decode cL_law 290 = .ok (.iload_n 3, 1) := z_dd_29 (by decide +kernel)
theorem dL_law_291 : decode cL_law 291 = .ok (.iconst 3, 1) := z_dd_6 (by decide +kernel)
theorem dL_law_292 : decode cL_law 292 = .ok (.iadd, 1) := z_dd_96 (by decide +kernel)
theorem dL_law_293 : decode cL_law 293 = .ok (.iaload, 1) := z_dd_46 (by decide +kernel)
theorem dL_law_294 : decode cL_law 294 = .ok (.invokevirtual 23, 3) := z_dd_182 (by decide +kernel)
theorem dL_law_297 : decode cL_law 297 = .ok (.pop, 1) := z_dd_87 (by decide +kernel)
theorem dL_law_298 : decode cL_law 298 = .ok (.aload_n 2, 1) := z_dd_44 (by decide +kernel)
theorem dL_law_299 : decode cL_law 299 = .ok (.aload_n 0, 1) := z_dd_42 (by decide +kernel)
theorem dL_law_300 : decode cL_law 300 = .ok (.iload_n 3, 1) := z_dd_29 (by decide +kernel)
theorem dL_law_301 : decode cL_law 301 = .ok (.iconst 1, 1) := z_dd_4 (by decide +kernel)
theorem dL_law_302 : decode cL_law 302 = .ok (.iadd, 1) := z_dd_96 (by decide +kernel)
theorem dL_law_303 : decode cL_law 303 = .ok (.iaload, 1) := z_dd_46 (by decide +kernel)
theorem dL_law_304 : decode cL_law 304 = .ok (.aload_n 0, 1) := z_dd_42 (by decide +kernel)
theorem dL_law_305 : decode cL_law 305 = .ok (.iload_n 3, 1) := z_dd_29 (by decide +kernel)
theorem dL_law_306 : decode cL_law 306 = .ok (.iconst 2, 1) := z_dd_5 (by decide +kernel)
theorem dL_law_307 : decode cL_law 307 = .ok (.iadd, 1) := z_dd_96 (by decide +kernel)
theorem dL_law_308 : decode cL_law 308 = .ok (.iaload, 1) := z_dd_46 (by decide +kernel)
theorem dL_law_309 : decode cL_law 309 = .ok (.aload_n 0, 1) := z_dd_42 (by decide +kernel)
theorem dL_law_310 : decode cL_law 310 = .ok (.iload_n 3, 1) := z_dd_29 (by decide +kernel)
theorem dL_law_311 : decode cL_law 311 = .ok (.iconst 3, 1) := z_dd_6 (by decide +kernel)
theorem dL_law_312 : decode cL_law 312 = .ok (.iadd, 1) := z_dd_96 (by decide +kernel)
theorem dL_law_313 : decode cL_law 313 = .ok (.iaload, 1) := z_dd_46 (by decide +kernel)
theorem dL_law_314 : decode cL_law 314 = .ok (.invokevirtual 27, 3) := z_dd_182 (by decide +kernel)
theorem dL_law_317 : decode cL_law 317 = .ok (.pop, 1) := z_dd_87 (by decide +kernel)
theorem dL_law_318 : decode cL_law 318 = .ok (.goto 1190, 3) := z_dd_167 (by decide +kernel)
theorem dL_law_321 : decode cL_law 321 = .ok (.aload_n 1, 1) := z_dd_43 (by decide +kernel)
theorem dL_law_322 : decode cL_law 322 = .ok (.aload_n 0, 1) := z_dd_42 (by decide +kernel)
theorem dL_law_323 : decode cL_law 323 = .ok (.iload_n 3, 1) := z_dd_29 (by decide +kernel)
theorem dL_law_324 : decode cL_law 324 = .ok (.iconst 1, 1) := z_dd_4 (by decide +kernel)
theorem dL_law_325 : decode cL_law 325 = .ok (.iadd, 1) := z_dd_96 (by decide +kernel)
theorem dL_law_326 : decode cL_law 326 = .ok (.iaload, 1) := z_dd_46 (by decide +kernel)
theorem dL_law_327 : decode cL_law 327 = .ok (.invokevirtual 28, 3) := z_dd_182 (by decide +kernel)
theorem dL_law_330 : decode cL_law 330 = .ok (.pop, 1) := z_dd_87 (by decide +kernel)
theorem dL_law_331 : decode cL_law 331 = .ok (.aload_n 2, 1) := z_dd_44 (by decide +kernel)
theorem dL_law_332 : decode cL_law 332 = .ok (.aload_n 0, 1) := z_dd_42 (by decide +kernel)
theorem dL_law_333 : decode cL_law 333 = .ok (.iload_n 3, 1) := z_dd_29 (by decide +kernel)
theorem dL_law_334 : decode cL_law 334 = .ok (.iconst 1, 1) := z_dd_4 (by decide +kernel)
theorem dL_law_335 : decode cL_law 335 = .ok (.iadd, 1) := z_dd_96 (by decide +kernel)
theorem dL_law_336 : decode cL_law 336 = .ok (.iaload, 1) := z_dd_46 (by decide +kernel)
theorem dL_law_337 : decode cL_law 337 = .ok (.invokevirtual 31, 3) := z_dd_182 (by decide +kernel)
theorem dL_law_340 : decode cL_law 340 = .ok (.pop, 1) := z_dd_87 (by decide +kernel)
theorem dL_law_341 : decode cL_law 341 = .ok (.goto 1167, 3) := z_dd_167 (by decide +kernel)
theorem dL_law_344 : decode cL_law 344 = .ok (.aload_n 1, 1) := z_dd_43 (by decide +kernel)
theorem dL_law_345 : decode cL_law 345 = .ok (.aload_n 0, 1) := z_dd_42 (by decide +kernel)
theorem dL_law_346 : decode cL_law 346 = .ok (.iload_n 3, 1) := z_dd_29 (by decide +kernel)
theorem dL_law_347 : decode cL_law 347 = .ok (.iconst 1, 1) := z_dd_4 (by decide +kernel)
theorem dL_law_348 : decode cL_law 348 = .ok (.iadd, 1) := z_dd_96 (by decide +kernel)
theorem dL_law_349 : decode cL_law 349 = .ok (.iaload, 1) := z_dd_46 (by decide +kernel)
theorem dL_law_350 : decode cL_law 350 = .ok (.aload_n 0, 1) := z_dd_42 (by decide +kernel)
theorem dL_law_351 : decode cL_law 351 = .ok (.iload_n 3, 1) := z_dd_29 (by decide +kernel)
theorem dL_law_352 : decode cL_law 352 = .ok (.iconst 2, 1) := z_dd_5 (by decide +kernel)
theorem dL_law_353 : decode cL_law 353 = .ok (.iadd, 1) := z_dd_96 (by decide +kernel)
theorem dL_law_354 : decode cL_law 354 = .ok (.iaload, 1) := z_dd_46 (by decide +kernel)
theorem dL_law_355 : decode cL_law 355 = .ok (.aload_n 0, 1) := z_dd_42 (by decide +kernel)
theorem dL_law_356 : decode cL_law 356 = .ok (.iload_n 3, 1) := z_dd_29 (by decide +kernel)
theorem dL_law_357 : decode cL_law 357 = .ok (.iconst 3, 1) := z_dd_6 (by decide +kernel)
theorem dL_law_358 : decode cL_law 358 = .ok (.iadd, 1) := z_dd_96 (by decide +kernel)
theorem dL_law_359 : decode cL_law 359 = .ok (.iaload, 1) := z_dd_46 (by decide +kernel)
theorem dL_law_360 : decode cL_law 360 = .ok (.invokevirtual 32, 3) := z_dd_182 (by decide +kernel)
theorem dL_law_363 : decode cL_law 363 = .ok (.pop, 1) := z_dd_87 (by decide +kernel)
theorem dL_law_364 : decode cL_law 364 = .ok (.aload_n 2, 1) := z_dd_44 (by decide +kernel)
theorem dL_law_365 : decode cL_law 365 = .ok (.aload_n 0, 1) := z_dd_42 (by decide +kernel)
theorem dL_law_366 : decode cL_law 366 = .ok (.iload_n 3, 1) := z_dd_29 (by decide +kernel)
theorem dL_law_367 : decode cL_law 367 = .ok (.iconst 1, 1) := z_dd_4 (by decide +kernel)
theorem dL_law_368 : decode cL_law 368 = .ok (.iadd, 1) := z_dd_96 (by decide +kernel)
theorem dL_law_369 : decode cL_law 369 = .ok (.iaload, 1) := z_dd_46 (by decide +kernel)
theorem dL_law_370 : decode cL_law 370 = .ok (.aload_n 0, 1) := z_dd_42 (by decide +kernel)
theorem dL_law_371 : decode cL_law 371 = .ok (.iload_n 3, 1) := z_dd_29 (by decide +kernel)
theorem dL_law_372 : decode cL_law 372 = .ok (.iconst 2, 1) := z_dd_5 (by decide +kernel)
theorem dL_law_373 : decode cL_law 373 = .ok (.iadd, 1) := z_dd_96 (by decide +kernel)
theorem dL_law_374 : decode cL_law 374 = .ok (.iaload, 1) := z_dd_46 (by decide +kernel)
theorem dL_law_375 : decode cL_law 375 = .ok (.aload_n 0, 1) := z_dd_42 (by decide +kernel)
theorem dL_law_376 : decode cL_law 376 = .ok (.iload_n 3, 1) := z_dd_29 (by decide +kernel)
theorem dL_law_377 : decode cL_law 377 = .ok (.iconst 3, 1) := z_dd_6 (by decide +kernel)
theorem dL_law_378 : decode cL_law 378 = .ok (.iadd, 1) := z_dd_96 (by decide +kernel)
theorem dL_law_379 : decode cL_law 379 = .ok (.iaload, 1) := z_dd_46 (by decide +kernel)
theorem dL_law_380 : decode cL_law 380 = .ok (.invokevirtual 35, 3) := z_dd_182 (by decide +kernel)
theorem dL_law_383 : decode cL_law 383 = .ok (.pop, 1) := z_dd_87 (by decide +kernel)
theorem dL_law_384 : decode cL_law 384 = .ok (.goto 1124, 3) := z_dd_167 (by decide +kernel)
theorem dL_law_387 : decode cL_law 387 = .ok (.aload_n 1, 1) := z_dd_43 (by decide +kernel)
theorem dL_law_388 : decode cL_law 388 = .ok (.aload_n 0, 1) := z_dd_42 (by decide +kernel)
theorem dL_law_389 : decode cL_law 389 = .ok (.iload_n 3, 1) := z_dd_29 (by decide +kernel)
theorem dL_law_390 : decode cL_law 390 = .ok (.iconst 1, 1) := z_dd_4 (by decide +kernel)
theorem dL_law_391 : decode cL_law 391 = .ok (.iadd, 1) := z_dd_96 (by decide +kernel)
theorem dL_law_392 : decode cL_law 392 = .ok (.iaload, 1) := z_dd_46 (by decide +kernel)
theorem dL_law_393 : decode cL_law 393 = .ok (.aload_n 0, 1) := z_dd_42 (by decide +kernel)
theorem dL_law_394 : decode cL_law 394 = .ok (.iload_n 3, 1) := z_dd_29 (by decide +kernel)
theorem dL_law_395 : decode cL_law 395 = .ok (.iconst 2, 1) := z_dd_5 (by decide +kernel)
theorem dL_law_396 : decode cL_law 396 = .ok (.iadd, 1) := z_dd_96 (by decide +kernel)
theorem dL_law_397 : decode cL_law 397 = .ok (.iaload, 1) := z_dd_46 (by decide +kernel)
theorem dL_law_398 : decode cL_law 398 = .ok (.aload_n 0, 1) := z_dd_42 (by decide +kernel)
theorem dL_law_399 : decode cL_law 399 = .ok (.iload_n 3, 1) := z_dd_29 (by decide +kernel)
theorem dL_law_400 : decode cL_law 400 = .ok (.iconst 3, 1) := z_dd_6 (by decide +kernel)
theorem dL_law_401 : decode cL_law 401 = .ok (.iadd, 1) := z_dd_96 (by decide +kernel)
theorem dL_law_402 : decode cL_law 402 = .ok (.iaload, 1) := z_dd_46 (by decide +kernel)
theorem dL_law_403 : decode cL_law 403 = .ok (.aload_n 0, 1) := z_dd_42 (by decide +kernel)
theorem dL_law_404 : decode cL_law 404 = .ok (.iload_n 3, 1) := z_dd_29 (by decide +kernel)
theorem dL_law_405 : decode cL_law 405 = .ok (.iconst 4, 1) := z_dd_7 (by decide +kernel)
theorem dL_law_406 : decode cL_law 406 = .ok (.iadd, 1) := z_dd_96 (by decide +kernel)
theorem dL_law_407 : decode cL_law 407 = .ok (.iaload, 1) := z_dd_46 (by decide +kernel)
theorem dL_law_408 : decode cL_law 408 = .ok (.aload_n 0, 1) := z_dd_42 (by decide +kernel)
theorem dL_law_409 : decode cL_law 409 = .ok (.iload_n 3, 1) := z_dd_29 (by decide +kernel)
theorem dL_law_410 : decode cL_law 410 = .ok (.iconst 5, 1) := z_dd_8 (by decide +kernel)
theorem dL_law_411 : decode cL_law 411 = .ok (.iadd, 1) := z_dd_96 (by decide +kernel)
theorem dL_law_412 : decode cL_law 412 = .ok (.iaload, 1) := z_dd_46 (by decide +kernel)
theorem dL_law_413 : decode cL_law 413 = .ok (.invokevirtual 36, 3) := z_dd_182 (by decide +kernel)
theorem dL_law_416 : decode cL_law 416 = .ok (.pop, 1) := z_dd_87 (by decide +kernel)
theorem dL_law_417 : decode cL_law 417 = .ok (.aload_n 2, 1) := z_dd_44 (by decide +kernel)
theorem dL_law_418 : decode cL_law 418 = .ok (.aload_n 0, 1) := z_dd_42 (by decide +kernel)
theorem dL_law_419 : decode cL_law 419 = .ok (.iload_n 3, 1) := z_dd_29 (by decide +kernel)
theorem dL_law_420 : decode cL_law 420 = .ok (.iconst 1, 1) := z_dd_4 (by decide +kernel)
theorem dL_law_421 : decode cL_law 421 = .ok (.iadd, 1) := z_dd_96 (by decide +kernel)
theorem dL_law_422 : decode cL_law 422 = .ok (.iaload, 1) := z_dd_46 (by decide +kernel)
theorem dL_law_423 : decode cL_law 423 = .ok (.aload_n 0, 1) := z_dd_42 (by decide +kernel)
theorem dL_law_424 : decode cL_law 424 = .ok (.iload_n 3, 1) := z_dd_29 (by decide +kernel)
theorem dL_law_425 : decode cL_law 425 = .ok (.iconst 2, 1) := z_dd_5 (by decide +kernel)
theorem dL_law_426 : decode cL_law 426 = .ok (.iadd, 1) := z_dd_96 (by decide +kernel)
theorem dL_law_427 : decode cL_law 427 = .ok (.iaload, 1) := z_dd_46 (by decide +kernel)
theorem dL_law_428 : decode cL_law 428 = .ok (.aload_n 0, 1) := z_dd_42 (by decide +kernel)
theorem dL_law_429 : decode cL_law 429 = .ok (.iload_n 3, 1) := z_dd_29 (by decide +kernel)
theorem dL_law_430 : decode cL_law 430 = .ok (.iconst 3, 1) := z_dd_6 (by decide +kernel)
theorem dL_law_431 : decode cL_law 431 = .ok (.iadd, 1) := z_dd_96 (by decide +kernel)
theorem dL_law_432 : decode cL_law 432 = .ok (.iaload, 1) := z_dd_46 (by decide +kernel)
theorem dL_law_433 : decode cL_law 433 = .ok (.aload_n 0, 1) := z_dd_42 (by decide +kernel)
theorem dL_law_434 : decode cL_law 434 = .ok (.iload_n 3, 1) := z_dd_29 (by decide +kernel)
theorem dL_law_435 : decode cL_law 435 = .ok (.iconst 4, 1) := z_dd_7 (by decide +kernel)
theorem dL_law_436 : decode cL_law 436 = .ok (.iadd, 1) := z_dd_96 (by decide +kernel)
theorem dL_law_437 : decode cL_law 437 = .ok (.iaload, 1) := z_dd_46 (by decide +kernel)
theorem dL_law_438 : decode cL_law 438 = .ok (.aload_n 0, 1) := z_dd_42 (by decide +kernel)
theorem dL_law_439 : decode cL_law 439 = .ok (.iload_n 3, 1) := z_dd_29 (by decide +kernel)
theorem dL_law_440 : decode cL_law 440 = .ok (.iconst 5, 1) := z_dd_8 (by decide +kernel)
theorem dL_law_441 : decode cL_law 441 = .ok (.iadd, 1) := z_dd_96 (by decide +kernel)
theorem dL_law_442 : decode cL_law 442 = .ok (.iaload, 1) := z_dd_46 (by decide +kernel)
theorem dL_law_443 : decode cL_law 443 = .ok (.invokevirtual 39, 3) := z_dd_182 (by decide +kernel)
theorem dL_law_446 : decode cL_law 446 = .ok (.pop, 1) := z_dd_87 (by decide +kernel)
theorem dL_law_447 : decode cL_law 447 = .ok (.goto 1061, 3) := z_dd_167 (by decide +kernel)
theorem dL_law_450 : decode cL_law 450 = .ok (.aload_n 1, 1) := z_dd_43 (by decide +kernel)
theorem dL_law_451 : decode cL_law 451 = .ok (.aload_n 0, 1) := z_dd_42 (by decide +kernel)
theorem dL_law_452 : decode cL_law 452 = .ok (.iload_n 3, 1) := z_dd_29 (by decide +kernel)
theorem dL_law_453 : decode cL_law 453 = .ok (.iconst 1, 1) := z_dd_4 (by decide +kernel)
theorem dL_law_454 : decode cL_law 454 = .ok (.iadd, 1) := z_dd_96 (by decide +kernel)
theorem dL_law_455 : decode cL_law 455 = .ok (.iaload, 1) := z_dd_46 (by decide +kernel)
theorem dL_law_456 : decode cL_law 456 = .ok (.aload_n 0, 1) := z_dd_42 (by decide +kernel)
theorem dL_law_457 : decode cL_law 457 = .ok (.iload_n 3, 1) := z_dd_29 (by decide +kernel)
theorem dL_law_458 : decode cL_law 458 = .ok (.iconst 2, 1) := z_dd_5 (by decide +kernel)
theorem dL_law_459 : decode cL_law 459 = .ok (.iadd, 1) := z_dd_96 (by decide +kernel)
theorem dL_law_460 : decode cL_law 460 = .ok (.iaload, 1) := z_dd_46 (by decide +kernel)
theorem dL_law_461 : decode cL_law 461 = .ok (.invokevirtual 40, 3) := z_dd_182 (by decide +kernel)
theorem dL_law_464 : decode cL_law 464 = .ok (.pop, 1) := z_dd_87 (by decide +kernel)
theorem dL_law_465 : decode cL_law 465 = .ok (.aload_n 2, 1) := z_dd_44 (by decide +kernel)
theorem dL_law_466 : decode cL_law 466 = .ok (.aload_n 0, 1) := z_dd_42 (by decide +kernel)
theorem dL_law_467 : decode cL_law 467 = .ok (.iload_n 3, 1) := z_dd_29 (by decide +kernel)
theorem dL_law_468 : decode cL_law 468 = .ok (.iconst 1, 1) := z_dd_4 (by decide +kernel)
theorem dL_law_469 : decode cL_law 469 = .ok (.iadd, 1) := z_dd_96 (by decide +kernel)
theorem dL_law_470 : decode cL_law 470 = .ok (.iaload, 1) := z_dd_46 (by decide +kernel)
theorem dL_law_471 : decode cL_law 471 = .ok (.aload_n 0, 1) := z_dd_42 (by decide +kernel)
theorem dL_law_472 : decode cL_law 472 = .ok (.iload_n 3, 1) := z_dd_29 (by decide +kernel)
theorem dL_law_473 : decode cL_law 473 = .ok (.iconst 2, 1) := z_dd_5 (by decide +kernel)
theorem dL_law_474 : decode cL_law 474 = .ok (.iadd, 1) := z_dd_96 (by decide +kernel)
theorem dL_law_475 : decode cL_law 475 = .ok (.iaload, 1) := z_dd_46 (by decide +kernel)
theorem dL_law_476 : decode cL_law 476 = .ok (.invokevirtual 44, 3) := z_dd_182 (by decide +kernel)
theorem dL_law_479 : decode cL_law 479 = .ok (.pop, 1) := z_dd_87 (by decide +kernel)
theorem dL_law_480 : decode cL_law 480 = .ok (.goto 1028, 3) := z_dd_167 (by decide +kernel)
theorem dL_law_483 : decode cL_law 483 = .ok (.aload_n 1, 1) := z_dd_43 (by decide +kernel)
theorem dL_law_484 : decode cL_law 484 = .ok (.invokevirtual 45, 3) := z_dd_182 (by decide +kernel)
theorem dL_law_487 : decode cL_law 487 = .ok (.pop, 1) := z_dd_87 (by decide +kernel)
theorem dL_law_488 : decode cL_law 488 = .ok (.aload_n 2, 1) := z_dd_44 (by decide +kernel)
theorem dL_law_489 : decode cL_law 489 = .ok (.invokevirtual 49, 3) := z_dd_182 (by decide +kernel)
theorem dL_law_492 : decode cL_law 492 = .ok (.pop, 1) := z_dd_87 (by decide +kernel)
theorem dL_law_493 : decode cL_law 493 = .ok (.goto 1015, 3) := z_dd_167 (by decide +kernel)
theorem dL_law_496 : decode cL_law 496 = .ok (.aload_n 1, 1) := z_dd_43 (by decide +kernel)
theorem dL_law_497 : decode cL_law 497 = .ok (.aload_n 0, 1) := z_dd_42 (by decide +kernel)
theorem dL_law_498 : decode cL_law 498 = .ok (.iload_n 3, 1) := z_dd_29 (by decide +kernel)
theorem dL_law_499 : decode cL_law 499 = .ok (.iconst 1, 1) := z_dd_4 (by decide +kernel)
theorem dL_law_500 : decode cL_law 500 = .ok (.iadd, 1) := z_dd_96 (by decide +kernel)
theorem dL_law_501 : decode cL_law 501 = .ok (.iaload, 1) := z_dd_46 (by decide +kernel)
theorem dL_law_502 : decode cL_law 502 = .ok (.aload_n 0, 1) := z_dd_42 (by decide +kernel)
theorem dL_law_503 : decode cL_law 503 = .ok (.iload_n 3, 1) := z_dd_29 (by decide +kernel)
theorem dL_law_504 : decode cL_law 504 = .ok (.iconst 2, 1) := z_dd_5 (by decide +kernel)
theorem dL_law_505 : decode cL_law 505 = .ok (.iadd, 1) := z_dd_96 (by decide +kernel)
theorem dL_law_506 : decode cL_law 506 = .ok (.iaload, 1) := z_dd_46 (by decide +kernel)
theorem dL_law_507 : decode cL_law 507 = .ok (.aload_n 0, 1) := z_dd_42 (by decide +kernel)
theorem dL_law_508 : decode cL_law 508 = .ok (.iload_n 3, 1) := z_dd_29 (by decide +kernel)
theorem dL_law_509 : decode cL_law 509 = .ok (.iconst 3, 1) := z_dd_6 (by decide +kernel)
theorem dL_law_510 : decode cL_law 510 = .ok (.iadd, 1) := z_dd_96 (by decide +kernel)
theorem dL_law_511 : decode cL_law 511 = .ok (.iaload, 1) := z_dd_46 (by decide +kernel)
theorem dL_law_512 : decode cL_law 512 = .ok (.invokevirtual 50, 3) := z_dd_182 (by decide +kernel)
theorem dL_law_515 : decode cL_law 515 = .ok (.pop, 1) := z_dd_87 (by decide +kernel)
theorem dL_law_516 : decode cL_law 516 = .ok (.aload_n 2, 1) := z_dd_44 (by decide +kernel)
theorem dL_law_517 : decode cL_law 517 = .ok (.aload_n 0, 1) := z_dd_42 (by decide +kernel)
theorem dL_law_518 : decode cL_law 518 = .ok (.iload_n 3, 1) := z_dd_29 (by decide +kernel)
theorem dL_law_519 : decode cL_law 519 = .ok (.iconst 1, 1) := z_dd_4 (by decide +kernel)
theorem dL_law_520 : decode cL_law 520 = .ok (.iadd, 1) := z_dd_96 (by decide +kernel)
theorem dL_law_521 : decode cL_law 521 = .ok (.iaload, 1) := z_dd_46 (by decide +kernel)
theorem dL_law_522 : decode cL_law 522 = .ok (.aload_n 0, 1) := z_dd_42 (by decide +kernel)
theorem dL_law_523 : decode cL_law 523 = .ok (.iload_n 3, 1) := z_dd_29 (by decide +kernel)
theorem dL_law_524 : decode cL_law 524 = .ok (.iconst 2, 1) := z_dd_5 (by decide +kernel)
theorem dL_law_525 : decode cL_law 525 = .ok (.iadd, 1) := z_dd_96 (by decide +kernel)
theorem dL_law_526 : decode cL_law 526 = .ok (.iaload, 1) := z_dd_46 (by decide +kernel)
theorem dL_law_527 : decode cL_law 527 = .ok (.aload_n 0, 1) := z_dd_42 (by decide +kernel)
theorem dL_law_528 : decode cL_law 528 = .ok (.iload_n 3, 1) := z_dd_29 (by decide +kernel)
theorem dL_law_529 : decode cL_law 529 = .ok (.iconst 3, 1) := z_dd_6 (by decide +kernel)
theorem dL_law_530 : decode cL_law 530 = .ok (.iadd, 1) := z_dd_96 (by decide +kernel)
theorem dL_law_531 : decode cL_law 531 = .ok (.iaload, 1) := z_dd_46 (by decide +kernel)
theorem dL_law_532 : decode cL_law 532 = .ok (.invokevirtual 53, 3) := z_dd_182 (by decide +kernel)
theorem dL_law_535 : decode cL_law 535 = .ok (.pop, 1) := z_dd_87 (by decide +kernel)
theorem dL_law_536 : decode cL_law 536 = .ok (.goto 972, 3) := z_dd_167 (by decide +kernel)
theorem dL_law_539 : decode cL_law 539 = .ok (.aload_n 1, 1) := z_dd_43 (by decide +kernel)
theorem dL_law_540 : decode cL_law 540 = .ok (.aload_n 0, 1) := z_dd_42 (by decide +kernel)
theorem dL_law_541 : decode cL_law 541 = .ok (.iload_n 3, 1) := z_dd_29 (by decide +kernel)
theorem dL_law_542 : decode cL_law 542 = .ok (.iconst 1, 1) := z_dd_4 (by decide +kernel)
theorem dL_law_543 : decode cL_law 543 = .ok (.iadd, 1) := z_dd_96 (by decide +kernel)
theorem dL_law_544 : decode cL_law 544 = .ok (.iaload, 1) := z_dd_46 (by decide +kernel)
theorem dL_law_545 : decode cL_law 545 = .ok (.aload_n 0, 1) := z_dd_42 (by decide +kernel)
theorem dL_law_546 : decode cL_law 546 = .ok (.iload_n 3, 1) := z_dd_29 (by decide +kernel)
theorem dL_law_547 : decode cL_law 547 = .ok (.iconst 2, 1) := z_dd_5 (by decide +kernel)
theorem dL_law_548 : decode cL_law 548 = .ok (.iadd, 1) := z_dd_96 (by decide +kernel)
theorem dL_law_549 : decode cL_law 549 = .ok (.iaload, 1) := z_dd_46 (by decide +kernel)
theorem dL_law_550 : decode cL_law 550 = .ok (.aload_n 0, 1) := z_dd_42 (by decide +kernel)
theorem dL_law_551 : decode cL_law 551 = .ok (.iload_n 3, 1) := z_dd_29 (by decide +kernel)
theorem dL_law_552 : decode cL_law 552 = .ok (.iconst 3, 1) := z_dd_6 (by decide +kernel)
theorem dL_law_553 : decode cL_law 553 = .ok (.iadd, 1) := z_dd_96 (by decide +kernel)
theorem dL_law_554 : decode cL_law 554 = .ok (.iaload, 1) := z_dd_46 (by decide +kernel)
theorem dL_law_555 : decode cL_law 555 = .ok (.invokevirtual 54, 3) := z_dd_182 (by decide +kernel)
theorem dL_law_558 : decode cL_law 558 = .ok (.pop, 1) := z_dd_87 (by decide +kernel)
theorem dL_law_559 : decode cL_law 559 = .ok (.aload_n 2, 1) := z_dd_44 (by decide +kernel)
theorem dL_law_560 : decode cL_law 560 = .ok (.aload_n 0, 1) := z_dd_42 (by decide +kernel)
theorem dL_law_561 : decode cL_law 561 = .ok (.iload_n 3, 1) := z_dd_29 (by decide +kernel)
theorem dL_law_562 : decode cL_law 562 = .ok (.iconst 1, 1) := z_dd_4 (by decide +kernel)
theorem dL_law_563 : decode cL_law 563 = .ok (.iadd, 1) := z_dd_96 (by decide +kernel)
theorem dL_law_564 : decode cL_law 564 = .ok (.iaload, 1) := z_dd_46 (by decide +kernel)
theorem dL_law_565 : decode cL_law 565 = .ok (.aload_n 0, 1) := z_dd_42 (by decide +kernel)
theorem dL_law_566 : decode cL_law 566 = .ok (.iload_n 3, 1) := z_dd_29 (by decide +kernel)
theorem dL_law_567 : decode cL_law 567 = .ok (.iconst 2, 1) := z_dd_5 (by decide +kernel)
theorem dL_law_568 : decode cL_law 568 = .ok (.iadd, 1) := z_dd_96 (by decide +kernel)
theorem dL_law_569 : decode cL_law 569 = .ok (.iaload, 1) := z_dd_46 (by decide +kernel)
theorem dL_law_570 : decode cL_law 570 = .ok (.aload_n 0, 1) := z_dd_42 (by decide +kernel)
theorem dL_law_571 : decode cL_law 571 = .ok (.iload_n 3, 1) := z_dd_29 (by decide +kernel)
theorem dL_law_572 : decode cL_law 572 = .ok (.iconst 3, 1) := z_dd_6 (by decide +kernel)
theorem dL_law_573 : decode cL_law 573 = .ok (.iadd, 1) := z_dd_96 (by decide +kernel)
theorem dL_law_574 : decode cL_law 574 = .ok (.iaload, 1) := z_dd_46 (by decide +kernel)
theorem dL_law_575 : decode cL_law 575 = .ok (.invokevirtual 57, 3) := z_dd_182 (by decide +kernel)
theorem dL_law_578 : decode cL_law 578 = .ok (.pop, 1) := z_dd_87 (by decide +kernel)
theorem dL_law_579 : decode cL_law 579 = .ok (.goto 929, 3) := z_dd_167 (by decide +kernel)
theorem dL_law_582 : decode cL_law 582 = .ok (.aload_n 1, 1) := z_dd_43 (by decide +kernel)
theorem dL_law_583 : decode cL_law 583 = .ok (.aload_n 0, 1) := z_dd_42 (by decide +kernel)
theorem dL_law_584 : decode cL_law 584 = .ok (.iload_n 3, 1) := z_dd_29 (by decide +kernel)
theorem dL_law_585 : decode cL_law 585 = .ok (.iconst 1, 1) := z_dd_4 (by decide +kernel)
theorem dL_law_586 : decode cL_law 586 = .ok (.iadd, 1) := z_dd_96 (by decide +kernel)
theorem dL_law_587 : decode cL_law 587 = .ok (.iaload, 1) := z_dd_46 (by decide +kernel)
theorem dL_law_588 : decode cL_law 588 = .ok (.aload_n 0, 1) := z_dd_42 (by decide +kernel)
theorem dL_law_589 : decode cL_law 589 = .ok (.iload_n 3, 1) := z_dd_29 (by decide +kernel)
theorem dL_law_590 : decode cL_law 590 = .ok (.iconst 2, 1) := z_dd_5 (by decide +kernel)
theorem dL_law_591 : decode cL_law 591 = .ok (.iadd, 1) := z_dd_96 (by decide +kernel)
theorem dL_law_592 : decode cL_law 592 = .ok (.iaload, 1) := z_dd_46 (by decide +kernel)
theorem dL_law_593 : decode cL_law 593 = .ok (.invokevirtual 58, 3) := z_dd_182 (by decide +kernel)
theorem dL_law_596 : decode cL_law 596 = .ok (.pop, 1) := z_dd_87 (by decide +kernel)
theorem dL_law_597 : decode cL_law 597 = .ok (.aload_n 2, 1) := z_dd_44 (by decide +kernel)
theorem dL_law_598 : decode cL_law 598 = .ok (.aload_n 0, 1) := z_dd_42 (by decide +kernel)
theorem dL_law_599 : decode cL_law 599 = .ok (.iload_n 3, 1) := z_dd_29 (by decide +kernel)
theorem dL_law_600 : decode cL_law 600 = .ok (.iconst 1, 1) := z_dd_4 (by decide +kernel)
theorem dL_law_601 : decode cL_law 601 = .ok (.iadd, 1) := z_dd_96 (by decide +kernel)
theorem dL_law_602 : decode cL_law 602 = .ok (.iaload, 1) := z_dd_46 (by decide +kernel)
theorem dL_law_603 : decode cL_law 603 = .ok (.aload_n 0, 1) := z_dd_42 (by decide +kernel)
theorem dL_law_604 : decode cL_law 604 = .ok (.iload_n 3, 1) := z_dd_29 (by decide +kernel)
theorem dL_law_605 : decode cL_law 605 = .ok (.iconst 2, 1) := z_dd_5 (by decide +kernel)
theorem dL_law_606 : decode cL_law 606 = .ok (.iadd, 1) := z_dd_96 (by decide +kernel)
theorem dL_law_607 : decode cL_law 607 = .ok (.iaload, 1) := z_dd_46 (by decide +kernel)
theorem dL_law_608 : decode cL_law 608 = .ok (.invokevirtual 61, 3) := z_dd_182 (by decide +kernel)
theorem dL_law_611 : decode cL_law 611 = .ok (.pop, 1) := z_dd_87 (by decide +kernel)
theorem dL_law_612 : decode cL_law 612 = .ok (.goto 896, 3) := z_dd_167 (by decide +kernel)
theorem dL_law_615 : decode cL_law 615 = .ok (.aload_n 1, 1) := z_dd_43 (by decide +kernel)
theorem dL_law_616 : decode cL_law 616 = .ok (.aload_n 0, 1) := z_dd_42 (by decide +kernel)
theorem dL_law_617 : decode cL_law 617 = .ok (.iload_n 3, 1) := z_dd_29 (by decide +kernel)
theorem dL_law_618 : decode cL_law 618 = .ok (.iconst 1, 1) := z_dd_4 (by decide +kernel)
theorem dL_law_619 : decode cL_law 619 = .ok (.iadd, 1) := z_dd_96 (by decide +kernel)
theorem dL_law_620 : decode cL_law 620 = .ok (.iaload, 1) := z_dd_46 (by decide +kernel)
theorem dL_law_621 : decode cL_law 621 = .ok (.aload_n 0, 1) := z_dd_42 (by decide +kernel)
theorem dL_law_622 : decode cL_law 622 = .ok (.iload_n 3, 1) := z_dd_29 (by decide +kernel)
theorem dL_law_623 : decode cL_law 623 = .ok (.iconst 2, 1) := z_dd_5 (by decide +kernel)
theorem dL_law_624 : decode cL_law 624 = .ok (.iadd, 1) := z_dd_96 (by decide +kernel)
theorem dL_law_625 : decode cL_law 625 = .ok (.iaload, 1) := z_dd_46 (by decide +kernel)
theorem dL_law_626 : decode cL_law 626 = .ok (.invokevirtual 62, 3) := z_dd_182 (by decide +kernel)
theorem dL_law_629 : decode cL_law 629 = .ok (.pop, 1) := z_dd_87 (by decide +kernel)
theorem dL_law_630 : decode cL_law 630 = .ok (.aload_n 2, 1) := z_dd_44 (by decide +kernel)
theorem dL_law_631 : decode cL_law 631 = .ok (.aload_n 0, 1) := z_dd_42 (by decide +kernel)
theorem dL_law_632 : decode cL_law 632 = .ok (.iload_n 3, 1) := z_dd_29 (by decide +kernel)
theorem dL_law_633 : decode cL_law 633 = .ok (.iconst 1, 1) := z_dd_4 (by decide +kernel)
theorem dL_law_634 : decode cL_law 634 = .ok (.iadd, 1) := z_dd_96 (by decide +kernel)
theorem dL_law_635 : decode cL_law 635 = .ok (.iaload, 1) := z_dd_46 (by decide +kernel)
theorem dL_law_636 : decode cL_law 636 = .ok (.aload_n 0, 1) := z_dd_42 (by decide +kernel)
theorem dL_law_637 : decode cL_law 637 = .ok (.iload_n 3, 1) := z_dd_29 (by decide +kernel)
theorem dL_law_638 : decode cL_law 638 = .ok (.iconst 2, 1) := z_dd_5 (by decide +kernel)
theorem dL_law_639 : decode cL_law 639 = .ok (.iadd, 1) := z_dd_96 (by decide +kernel)
theorem dL_law_640 : decode cL_law 640 = .ok (.iaload, 1) := z_dd_46 (by decide +kernel)
theorem dL_law_641 : decode cL_law 641 = .ok (.invokevirtual 66, 3) := z_dd_182 (by decide +kernel)
theorem dL_law_644 : decode cL_law 644 = .ok (.pop, 1) := z_dd_87 (by decide +kernel)
theorem dL_law_645 : decode cL_law 645 = .ok (.goto 863, 3) := z_dd_167 (by decide +kernel)

set_option maxHeartbeats 8000000 in
set_option maxRecDepth 100000 in
theorem lc_0 {p : Program} {e : Env} {s : State} {m : MethodId} {below : List Frame} {meth : Method} {c0 : Code} {b L : Nat} {xs : Nat → Int32} (l : Launch) {G : z_G} {A : Nat → Prop} {adK adV : Nat → Nat} (hK : z_K G s) (hA : ∀ q : Nat, s.heap.size ≤ q → A q) (hAi : ∀ q : Nat, A q → s.heap.size ≤ q) (hSt : z_St A s s.heap) (hKn : z_Cq adK adV A s s.heap) (hL : L ≤ 3584) (C0 : lw_At p s m meth c0 b L xs) {c : z_C} {ad adM : Nat → Nat} {Ix Im : z_I} {Jm : z_J} (hLX : z_LX c Ix) (hLM : z_LM Im) (htd : z_EQ Ix Im) {H : Heap} {locs : List Loc} {ls : Array Slot} (hWX : z_W G A (shC c, ad, Ix, JX, PC c ad) H) (hWM : z_W G A (shM, adM, Im, Jm, PM adM) H) (hap : ∀ i j, shC c i ≠ none → shM j ≠ none → ad i ≠ adM j) (hS : va_S A s.heap H locs) {i : Int32} (hi0 : 0 ≤ i.toInt) (hiL : i.toInt + 7 ≤ (L : Int)) (hl : lv_has ls 4 [(3, .int i), (2, .ref (adM 0)), (1, .ref (ad 0)), (0, .ref b)]) {cells slots : Nat} (hce : cells + 8 ≤ 600000) (hsl : slots + 2006 ≤ 7302250) (kk : ∀ (c : z_C) (ad : Nat → Nat) (Ix Im : z_I) (Jm : z_J) (H : Heap) (locs : List Loc) (ls : Array Slot), z_LX c Ix → z_LM Im → z_EQ Ix Im → z_W G A (shC c, ad, Ix, JX, PC c ad) H → z_W G A (shM, adM, Im, Jm, PM adM) H → (∀ i j, shC c i ≠ none → shM j ≠ none → ad i ≠ adM j) → va_S A s.heap H locs → lv_has ls 4 [(3, .int i), (2, .ref (adM 0)), (1, .ref (ad 0)), (0, .ref b)] → W p l e room_1 s m #[Value.ref b] below meth c0 H locs (cells + 8) (slots + 2006) (lw_Z below #[Value.ref b] s) (F0 m 1508 ls [])) : W p l e room_1 s m #[Value.ref b] below meth c0 H locs (cells) (slots) (lw_Z below #[Value.ref b] s) (F0 m 192 ls []) := by
  obtain ⟨hx, hb, hr, hml, hown, hts0, hX, hbl, hlocks, hgv⟩ := id C0
  have hown : s.vm.findClass RL = some m.cls := hown
  have hts : ∀ w ∈ wsL_law, w.before #[Value.ref b] s = true := fun w hw => hts0 w (wsL_law_in w hw)
  have hbA : ¬ A b := fun h => absurd (hAi b h) (Nat.not_le.mpr hbl)
  have hLi : (L : Int) ≤ 3584 := by omega
  refine lv_aload_n hx hb dL_law_192 rfl (lv_at hl 2 rfl) ?_
  refine lv_aload_n hx hb dL_law_193 rfl (lv_at hl 3 rfl) ?_
  refine lv_iload_n hx hb dL_law_194 rfl (lv_at hl 0 rfl) ?_
  refine lv_iconst (v := 1) hx hb dL_law_195 (by decide) ?_
  refine lv_iadd hx hb dL_law_196 ?_
  refine lv_topi (fun x1 ex1 => ?_)
  have tx1 : x1.toInt = i.toInt + 1 := z_tadd ex1 rfl z_l1 (by omega) (by omega)
  refine va_sld hx hb hX hbl hbA hS (z_ix rfl (by omega) (by omega)) dL_law_197 ?_
  refine lv_topi (fun x2 ex2 => ?_)
  refine z_ciD hWX hWM hap hS hA (va_runV (As := [.int x2]) (rest := []) ⟨hx, hb, hml, hown, hts0⟩ (sx_X11_day2 l G ad c Ix hLX.2.2.2.2.2.2.2.2.1 x2 _) (cwV 1 hts0 gV_X11_day rfl rfl rfl (by decide +kernel) ⟨(Nat.le_of_ble_eq_true rfl), (Nat.le_of_ble_eq_true rfl)⟩) (z_preV (i := 0) hK hWX rfl rfl) rfl rfl hl.1 rfl (lv_room (Nat.le_of_ble_eq_true rfl)) dL_law_198 ⟨(by show cells + 0 ≤ 600000; omega), (by show slots + 0 ≤ 7302250; omega)⟩) (fun r u1 H locs hp hWX hWM hap hS => ?_)
  obtain ⟨I3, rfl, p5, p6, p7⟩ := hp
  have hLXI3 : z_LX c I3 := ⟨⟨(by show 0 ≤ (I3 1 5).toInt ∧ (I3 1 5).toInt ≤ 30; rw [p6 1 5 (by decide)]; exact hLX.1.1), (by show 0 ≤ (I3 1 11).toInt ∧ (I3 1 11).toInt ≤ 200; rw [p6 1 11 (by decide)]; exact hLX.1.2)⟩, ⟨(by show 0 ≤ (I3 12 1).toInt ∧ (I3 12 1).toInt ≤ 500; rw [p6 12 1 (by decide)]; exact hLX.2.1.1), (by show 0 ≤ (I3 12 5).toInt ∧ (I3 12 5).toInt ≤ 501; rw [p6 12 5 (by decide)]; exact hLX.2.1.2.1), (by show (-1) ≤ (I3 12 6).toInt ∧ (I3 12 6).toInt ≤ 1000000; rw [p6 12 6 (by decide)]; exact hLX.2.1.2.2.1), (by show 0 ≤ (I3 12 9).toInt ∧ (I3 12 9).toInt ≤ 500; rw [p6 12 9 (by decide)]; exact hLX.2.1.2.2.2.1), (by show 0 ≤ (I3 12 13).toInt ∧ (I3 12 13).toInt ≤ 24; rw [p6 12 13 (by decide)]; exact hLX.2.1.2.2.2.2)⟩, (by show 0 ≤ (I3 21 2).toInt ∧ (I3 21 2).toInt ≤ 12; rw [p6 21 2 (by decide)]; exact hLX.2.2.1), (by show 0 ≤ (I3 26 4).toInt ∧ (I3 26 4).toInt ≤ 512; rw [p6 26 4 (by decide)]; exact hLX.2.2.2.1), (by show 0 ≤ (I3 30 8).toInt ∧ (I3 30 8).toInt ≤ 300; rw [p6 30 8 (by decide)]; exact hLX.2.2.2.2.1), (by show 0 ≤ (I3 41 10).toInt ∧ (I3 41 10).toInt ≤ 4; rw [p6 41 10 (by decide)]; exact hLX.2.2.2.2.2.1), ⟨(by show 0 ≤ (I3 60 9).toInt ∧ (I3 60 9).toInt ≤ 60; rw [p6 60 9 (by decide)]; exact hLX.2.2.2.2.2.2.1.1), (by show 0 ≤ (I3 60 12).toInt ∧ (I3 60 12).toInt ≤ 12; rw [p6 60 12 (by decide)]; exact hLX.2.2.2.2.2.2.1.2)⟩, (by show 0 ≤ (I3 72 2).toInt ∧ (I3 72 2).toInt ≤ 30; rw [p6 72 2 (by decide)]; exact hLX.2.2.2.2.2.2.2.1), p5, hLX.2.2.2.2.2.2.2.2.2.1, hLX.2.2.2.2.2.2.2.2.2.2.1, (z_iS_fr hLX.2.2.2.2.2.2.2.2.2.2.2.1 p6 (by decide)), (by rw [p6 0 8 (by decide)]; exact hLX.2.2.2.2.2.2.2.2.2.2.2.2.1), (by rw [p6 21 2 (by decide)]; exact hLX.2.2.2.2.2.2.2.2.2.2.2.2.2)⟩
  refine lv_topi (fun x8 ex8 => ?_)
  rw [← ex8] at p7
  refine lv_pop hx hb dL_law_201 rfl ?_
  refine lv_aload_n hx hb dL_law_202 rfl (lv_at hl 1 rfl) ?_
  refine lv_aload_n hx hb dL_law_203 rfl (lv_at hl 3 rfl) ?_
  refine lv_iload_n hx hb dL_law_204 rfl (lv_at hl 0 rfl) ?_
  refine lv_iconst (v := 1) hx hb dL_law_205 (by decide) ?_
  refine lv_iadd hx hb dL_law_206 ?_
  refine lv_topi (fun x9 ex9 => ?_)
  have tx9 : x9.toInt = i.toInt + 1 := z_tadd ex9 rfl z_l1 (by omega) (by omega)
  refine va_sld hx hb hX hbl hbA hS (z_ix rfl (by omega) (by omega)) dL_law_207 ?_
  refine lv_topi (fun x10 ex10 => ?_)
  refine z_ciD hWM hWX (fun i j hi hj e => hap j i hj hi e.symm) hS hA (va_runV (As := [.int x10]) (rest := []) ⟨hx, hb, hml, hown, hts0⟩ (sx_X12_day2 l G adM Im Jm hLM.1 x10 _) (cwV 1 hts0 gV_X12_day rfl rfl rfl (by decide +kernel) ⟨(Nat.le_of_ble_eq_true rfl), (Nat.le_of_ble_eq_true rfl)⟩) (z_preV (i := 0) hK hWM rfl rfl) rfl rfl hl.1 rfl (lv_room (Nat.le_of_ble_eq_true rfl)) dL_law_208 ⟨(by show cells + 0 + 0 ≤ 600000; omega), (by show slots + 0 + 0 ≤ 7302250; omega)⟩) (fun r u1 H locs hp hWM hWX hapn hS => ?_)
  obtain ⟨I11, J12, rfl, p13, p14, p15⟩ := hp
  have hLMI11 : z_LM I11 := ⟨p13, ⟨(by show 0 ≤ (I11 0 13).toInt ∧ (I11 0 13).toInt ≤ 12; rw [p14 0 13 (by decide)]; exact hLM.2.1.1), (by show 0 ≤ (I11 0 14).toInt ∧ (I11 0 14).toInt ≤ 288; rw [p14 0 14 (by decide)]; exact hLM.2.1.2)⟩, (by show 0 ≤ (I11 0 15).toInt ∧ (I11 0 15).toInt ≤ 6100; rw [p14 0 15 (by decide)]; exact hLM.2.2.1), ⟨(by show 0 ≤ (I11 0 31).toInt ∧ (I11 0 31).toInt ≤ 500; rw [p14 0 31 (by decide)]; exact hLM.2.2.2.1.1), (by show 0 ≤ (I11 0 33).toInt ∧ (I11 0 33).toInt ≤ 500; rw [p14 0 33 (by decide)]; exact hLM.2.2.2.1.2.1), (by show 0 ≤ (I11 0 34).toInt ∧ (I11 0 34).toInt ≤ 500; rw [p14 0 34 (by decide)]; exact hLM.2.2.2.1.2.2.1), (by show 0 ≤ (I11 0 35).toInt ∧ (I11 0 35).toInt ≤ 500; rw [p14 0 35 (by decide)]; exact hLM.2.2.2.1.2.2.2)⟩, ⟨(by show 0 ≤ (I11 0 36).toInt ∧ (I11 0 36).toInt ≤ 4; rw [p14 0 36 (by decide)]; exact hLM.2.2.2.2.1.1), (by show 0 ≤ (I11 0 42).toInt ∧ (I11 0 42).toInt ≤ 1; rw [p14 0 42 (by decide)]; exact hLM.2.2.2.2.1.2)⟩, ⟨(by show 0 ≤ (I11 0 47).toInt ∧ (I11 0 47).toInt ≤ 119; rw [p14 0 47 (by decide)]; exact hLM.2.2.2.2.2.1.1), (by show 0 ≤ (I11 0 39).toInt ∧ (I11 0 39).toInt ≤ 100; rw [p14 0 39 (by decide)]; exact hLM.2.2.2.2.2.1.2)⟩, (by show 0 ≤ (I11 0 40).toInt ∧ (I11 0 40).toInt ≤ 6199; rw [p14 0 40 (by decide)]; exact hLM.2.2.2.2.2.2.1), ⟨(by show 0 ≤ (I11 0 54).toInt ∧ (I11 0 54).toInt ≤ 10; rw [p14 0 54 (by decide)]; exact hLM.2.2.2.2.2.2.2.1.1), (by show 0 ≤ (I11 0 55).toInt ∧ (I11 0 55).toInt ≤ 300; rw [p14 0 55 (by decide)]; exact hLM.2.2.2.2.2.2.2.1.2)⟩, (by show 0 ≤ (I11 0 75).toInt ∧ (I11 0 75).toInt ≤ 4; rw [p14 0 75 (by decide)]; exact hLM.2.2.2.2.2.2.2.2.1), (by show 0 ≤ (I11 0 83).toInt ∧ (I11 0 83).toInt ≤ 60; rw [p14 0 83 (by decide)]; exact hLM.2.2.2.2.2.2.2.2.2.1), (z_rg_fr hLM.2.2.2.2.2.2.2.2.2.2.1 p14 (by decide)), (z_rg_fr hLM.2.2.2.2.2.2.2.2.2.2.2.1 p14 (by decide)), (z_rg_fr hLM.2.2.2.2.2.2.2.2.2.2.2.2.1 p14 (by decide)), (z_rg_fr hLM.2.2.2.2.2.2.2.2.2.2.2.2.2.1 p14 (by decide)), (z_rg_fr hLM.2.2.2.2.2.2.2.2.2.2.2.2.2.2.1 p14 (by decide)), (z_rg_fr hLM.2.2.2.2.2.2.2.2.2.2.2.2.2.2.2.1 p14 (by decide)), (z_rg_fr hLM.2.2.2.2.2.2.2.2.2.2.2.2.2.2.2.2.1 p14 (by decide)), (z_rg_fr hLM.2.2.2.2.2.2.2.2.2.2.2.2.2.2.2.2.2.1 p14 (by decide)), (z_rg_fr hLM.2.2.2.2.2.2.2.2.2.2.2.2.2.2.2.2.2.2.1 p14 (by decide)), (z_rg_fr hLM.2.2.2.2.2.2.2.2.2.2.2.2.2.2.2.2.2.2.2.1 p14 (by decide)), (z_Nd_fr hLM.2.2.2.2.2.2.2.2.2.2.2.2.2.2.2.2.2.2.2.2.1 p14 (by decide)), (z_Ex_fr hLM.2.2.2.2.2.2.2.2.2.2.2.2.2.2.2.2.2.2.2.2.2.1 p14 (by decide)), (z_rg_fr hLM.2.2.2.2.2.2.2.2.2.2.2.2.2.2.2.2.2.2.2.2.2.2.1 p14 (by decide)), (z_rg_fr hLM.2.2.2.2.2.2.2.2.2.2.2.2.2.2.2.2.2.2.2.2.2.2.2.1 p14 (by decide)), (z_rg_fr hLM.2.2.2.2.2.2.2.2.2.2.2.2.2.2.2.2.2.2.2.2.2.2.2.2.1 p14 (by decide)), (z_rg_fr hLM.2.2.2.2.2.2.2.2.2.2.2.2.2.2.2.2.2.2.2.2.2.2.2.2.2.1 p14 (by decide)), (z_rg_fr hLM.2.2.2.2.2.2.2.2.2.2.2.2.2.2.2.2.2.2.2.2.2.2.2.2.2.2.1 p14 (by decide)), (z_rg_fr hLM.2.2.2.2.2.2.2.2.2.2.2.2.2.2.2.2.2.2.2.2.2.2.2.2.2.2.2.1 p14 (by decide)), (z_rg_fr hLM.2.2.2.2.2.2.2.2.2.2.2.2.2.2.2.2.2.2.2.2.2.2.2.2.2.2.2.2.1 p14 (by decide)), (by unfold z_iro; rw [p14 0 13 (by decide), p14 0 14 (by decide), p14 0 15 (by decide)]; exact hLM.2.2.2.2.2.2.2.2.2.2.2.2.2.2.2.2.2.2.2.2.2.2.2.2.2.2.2.2.2)⟩
  have hap := fun i j hi hj e => hapn j i hj hi (Eq.symm e)
  refine lv_topi (fun x16 ex16 => ?_)
  rw [← ex16] at p15
  refine lv_pop hx hb dL_law_211 rfl ?_
  refine lv_goto (tgt := 1508) hx hb dL_law_212 (by decide) ?_
  have hqtoday : (Ix 0 0).toInt = (Im 0 0).toInt := congrArg Int32.toInt (show Ix 0 0 = Im 0 0 from htd.1)
  have hqholders : (Ix 1 5).toInt = (Im 0 1).toInt := congrArg Int32.toInt (show Ix 1 5 = Im 0 1 from htd.2.1)
  have hqjourneys : (Ix 60 9).toInt = (Im 0 83).toInt := congrArg Int32.toInt (show Ix 60 9 = Im 0 83 from htd.2.2)
  have hv0 : x2.toInt = x10.toInt := by rw [ex2, ex10, ex1, ex9]
  have hEQ9 : z_EQ I3 I11 := ⟨(Int32.toInt_inj.mp (by omega)), (by rw [p6 1 5 (by decide), p14 0 1 (by decide)]; exact htd.2.1), (by rw [p6 60 9 (by decide), p14 0 83 (by decide)]; exact htd.2.2)⟩
  refine W.widen (k := cells + 8) (n := slots + 2006) (by omega) (by omega) ?_
  exact kk c ad I3 I11 J12 _ _ _ hLXI3 hLMI11 hEQ9 hWX hWM hap hS (lv_sub hl [0, 1, 2, 3] rfl)
set_option maxHeartbeats 8000000 in
set_option maxRecDepth 100000 in
theorem lc_1 {p : Program} {e : Env} {s : State} {m : MethodId} {below : List Frame} {meth : Method} {c0 : Code} {b L : Nat} {xs : Nat → Int32} (l : Launch) {G : z_G} {A : Nat → Prop} {adK adV : Nat → Nat} (hK : z_K G s) (hA : ∀ q : Nat, s.heap.size ≤ q → A q) (hAi : ∀ q : Nat, A q → s.heap.size ≤ q) (hSt : z_St A s s.heap) (hKn : z_Cq adK adV A s s.heap) (hL : L ≤ 3584) (C0 : lw_At p s m meth c0 b L xs) {c : z_C} {ad adM : Nat → Nat} {Ix Im : z_I} {Jm : z_J} (hLX : z_LX c Ix) (hLM : z_LM Im) (htd : z_EQ Ix Im) {H : Heap} {locs : List Loc} {ls : Array Slot} (hWX : z_W G A (shC c, ad, Ix, JX, PC c ad) H) (hWM : z_W G A (shM, adM, Im, Jm, PM adM) H) (hap : ∀ i j, shC c i ≠ none → shM j ≠ none → ad i ≠ adM j) (hS : va_S A s.heap H locs) {i : Int32} (hi0 : 0 ≤ i.toInt) (hiL : i.toInt + 7 ≤ (L : Int)) (hl : lv_has ls 4 [(3, .int i), (2, .ref (adM 0)), (1, .ref (ad 0)), (0, .ref b)]) {cells slots : Nat} (hce : cells + 8 ≤ 600000) (hsl : slots + 2006 ≤ 7302250) (kk : ∀ (c : z_C) (ad : Nat → Nat) (Ix Im : z_I) (Jm : z_J) (H : Heap) (locs : List Loc) (ls : Array Slot), z_LX c Ix → z_LM Im → z_EQ Ix Im → z_W G A (shC c, ad, Ix, JX, PC c ad) H → z_W G A (shM, adM, Im, Jm, PM adM) H → (∀ i j, shC c i ≠ none → shM j ≠ none → ad i ≠ adM j) → va_S A s.heap H locs → lv_has ls 4 [(3, .int i), (2, .ref (adM 0)), (1, .ref (ad 0)), (0, .ref b)] → W p l e room_1 s m #[Value.ref b] below meth c0 H locs (cells + 8) (slots + 2006) (lw_Z below #[Value.ref b] s) (F0 m 1508 ls [])) : W p l e room_1 s m #[Value.ref b] below meth c0 H locs (cells) (slots) (lw_Z below #[Value.ref b] s) (F0 m 215 ls []) := by
  obtain ⟨hx, hb, hr, hml, hown, hts0, hX, hbl, hlocks, hgv⟩ := id C0
  have hown : s.vm.findClass RL = some m.cls := hown
  have hts : ∀ w ∈ wsL_law, w.before #[Value.ref b] s = true := fun w hw => hts0 w (wsL_law_in w hw)
  have hbA : ¬ A b := fun h => absurd (hAi b h) (Nat.not_le.mpr hbl)
  have hLi : (L : Int) ≤ 3584 := by omega
  refine lv_aload_n hx hb dL_law_215 rfl (lv_at hl 2 rfl) ?_
  refine lv_aload_n hx hb dL_law_216 rfl (lv_at hl 3 rfl) ?_
  refine lv_iload_n hx hb dL_law_217 rfl (lv_at hl 0 rfl) ?_
  refine lv_iconst (v := 1) hx hb dL_law_218 (by decide) ?_
  refine lv_iadd hx hb dL_law_219 ?_
  refine lv_topi (fun x1 ex1 => ?_)
  have tx1 : x1.toInt = i.toInt + 1 := z_tadd ex1 rfl z_l1 (by omega) (by omega)
  refine va_sld hx hb hX hbl hbA hS (z_ix rfl (by omega) (by omega)) dL_law_220 ?_
  refine lv_topi (fun x2 ex2 => ?_)
  refine lv_aload_n hx hb dL_law_221 rfl (lv_at hl 3 rfl) ?_
  refine lv_iload_n hx hb dL_law_222 rfl (lv_at hl 0 rfl) ?_
  refine lv_iconst (v := 2) hx hb dL_law_223 (by decide) ?_
  refine lv_iadd hx hb dL_law_224 ?_
  refine lv_topi (fun x3 ex3 => ?_)
  have tx3 : x3.toInt = i.toInt + 2 := z_tadd ex3 rfl z_l2 (by omega) (by omega)
  refine va_sld hx hb hX hbl hbA hS (z_ix rfl (by omega) (by omega)) dL_law_225 ?_
  refine lv_topi (fun x4 ex4 => ?_)
  refine lv_aload_n hx hb dL_law_226 rfl (lv_at hl 3 rfl) ?_
  refine lv_iload_n hx hb dL_law_227 rfl (lv_at hl 0 rfl) ?_
  refine lv_iconst (v := 3) hx hb dL_law_228 (by decide) ?_
  refine lv_iadd hx hb dL_law_229 ?_
  refine lv_topi (fun x5 ex5 => ?_)
  have tx5 : x5.toInt = i.toInt + 3 := z_tadd ex5 rfl z_l3 (by omega) (by omega)
  refine va_sld hx hb hX hbl hbA hS (z_ix rfl (by omega) (by omega)) dL_law_230 ?_
  refine lv_topi (fun x6 ex6 => ?_)
  refine lv_aload_n hx hb dL_law_231 rfl (lv_at hl 3 rfl) ?_
  refine lv_iload_n hx hb dL_law_232 rfl (lv_at hl 0 rfl) ?_
  refine lv_iconst (v := 4) hx hb dL_law_233 (by decide) ?_
  refine lv_iadd hx hb dL_law_234 ?_
  refine lv_topi (fun x7 ex7 => ?_)
  have tx7 : x7.toInt = i.toInt + 4 := z_tadd ex7 rfl z_l4 (by omega) (by omega)
  refine va_sld hx hb hX hbl hbA hS (z_ix rfl (by omega) (by omega)) dL_law_235 ?_
  refine lv_topi (fun x8 ex8 => ?_)
  refine lv_aload_n hx hb dL_law_236 rfl (lv_at hl 3 rfl) ?_
  refine lv_iload_n hx hb dL_law_237 rfl (lv_at hl 0 rfl) ?_
  refine lv_iconst (v := 5) hx hb dL_law_238 (by decide) ?_
  refine lv_iadd hx hb dL_law_239 ?_
  refine lv_topi (fun x9 ex9 => ?_)
  have tx9 : x9.toInt = i.toInt + 5 := z_tadd ex9 rfl z_l5 (by omega) (by omega)
  refine va_sld hx hb hX hbl hbA hS (z_ix rfl (by omega) (by omega)) dL_law_240 ?_
  refine lv_topi (fun x10 ex10 => ?_)
  refine z_ciD hWX hWM hap hS hA (va_runV (As := [.int x2, .int x4, .int x6, .int x8, .int x10]) (rest := []) ⟨hx, hb, hml, hown, hts0⟩ (sx_X11_holder_e l G ad c Ix hLX.1 x2 x4 x6 x8 x10 hLX.2.2.2.2.2.2.2.2.2.1 hLX.2.2.2.2.2.2.2.2.2.2.1 _) (cwV 5 hts0 gV_X11_holder rfl rfl rfl (by decide +kernel) ⟨(Nat.le_of_ble_eq_true rfl), (Nat.le_of_ble_eq_true rfl)⟩) (z_preV (i := 0) hK hWX rfl rfl) rfl rfl hl.1 rfl (lv_room (Nat.le_of_ble_eq_true rfl)) dL_law_241 ⟨(by show cells + 0 ≤ 600000; omega), (by show slots + 0 ≤ 7302250; omega)⟩) (fun r u1 H locs hp hWX hWM hap hS => ?_)
  obtain ⟨I11, rfl, p13, p14, p15⟩ := hp
  have hLXI11 : z_LX c I11 := ⟨p13, ⟨(by show 0 ≤ (I11 12 1).toInt ∧ (I11 12 1).toInt ≤ 500; rw [p14 12 1 (by decide)]; exact hLX.2.1.1), (by show 0 ≤ (I11 12 5).toInt ∧ (I11 12 5).toInt ≤ 501; rw [p14 12 5 (by decide)]; exact hLX.2.1.2.1), (by show (-1) ≤ (I11 12 6).toInt ∧ (I11 12 6).toInt ≤ 1000000; rw [p14 12 6 (by decide)]; exact hLX.2.1.2.2.1), (by show 0 ≤ (I11 12 9).toInt ∧ (I11 12 9).toInt ≤ 500; rw [p14 12 9 (by decide)]; exact hLX.2.1.2.2.2.1), (by show 0 ≤ (I11 12 13).toInt ∧ (I11 12 13).toInt ≤ 24; rw [p14 12 13 (by decide)]; exact hLX.2.1.2.2.2.2)⟩, (by show 0 ≤ (I11 21 2).toInt ∧ (I11 21 2).toInt ≤ 12; rw [p14 21 2 (by decide)]; exact hLX.2.2.1), (by show 0 ≤ (I11 26 4).toInt ∧ (I11 26 4).toInt ≤ 512; rw [p14 26 4 (by decide)]; exact hLX.2.2.2.1), (by show 0 ≤ (I11 30 8).toInt ∧ (I11 30 8).toInt ≤ 300; rw [p14 30 8 (by decide)]; exact hLX.2.2.2.2.1), (by show 0 ≤ (I11 41 10).toInt ∧ (I11 41 10).toInt ≤ 4; rw [p14 41 10 (by decide)]; exact hLX.2.2.2.2.2.1), ⟨(by show 0 ≤ (I11 60 9).toInt ∧ (I11 60 9).toInt ≤ 60; rw [p14 60 9 (by decide)]; exact hLX.2.2.2.2.2.2.1.1), (by show 0 ≤ (I11 60 12).toInt ∧ (I11 60 12).toInt ≤ 12; rw [p14 60 12 (by decide)]; exact hLX.2.2.2.2.2.2.1.2)⟩, (by show 0 ≤ (I11 72 2).toInt ∧ (I11 72 2).toInt ≤ 30; rw [p14 72 2 (by decide)]; exact hLX.2.2.2.2.2.2.2.1), ⟨(by show 0 ≤ (I11 0 0).toInt ∧ (I11 0 0).toInt ≤ 719; rw [p14 0 0 (by decide)]; exact hLX.2.2.2.2.2.2.2.2.1.1), (by show 0 ≤ (I11 0 8).toInt ∧ (I11 0 8).toInt ≤ 10; rw [p14 0 8 (by decide)]; exact hLX.2.2.2.2.2.2.2.2.1.2)⟩, hLX.2.2.2.2.2.2.2.2.2.1, hLX.2.2.2.2.2.2.2.2.2.2.1, (z_iS_fr hLX.2.2.2.2.2.2.2.2.2.2.2.1 p14 (by decide)), (by rw [p14 0 8 (by decide)]; exact hLX.2.2.2.2.2.2.2.2.2.2.2.2.1), (by rw [p14 21 2 (by decide)]; exact hLX.2.2.2.2.2.2.2.2.2.2.2.2.2)⟩
  refine lv_topi (fun x16 ex16 => ?_)
  rw [← ex16] at p15
  refine lv_pop hx hb dL_law_244 rfl ?_
  refine lv_aload_n hx hb dL_law_245 rfl (lv_at hl 1 rfl) ?_
  refine lv_aload_n hx hb dL_law_246 rfl (lv_at hl 3 rfl) ?_
  refine lv_iload_n hx hb dL_law_247 rfl (lv_at hl 0 rfl) ?_
  refine lv_iconst (v := 1) hx hb dL_law_248 (by decide) ?_
  refine lv_iadd hx hb dL_law_249 ?_
  refine lv_topi (fun x17 ex17 => ?_)
  have tx17 : x17.toInt = i.toInt + 1 := z_tadd ex17 rfl z_l1 (by omega) (by omega)
  refine va_sld hx hb hX hbl hbA hS (z_ix rfl (by omega) (by omega)) dL_law_250 ?_
  refine lv_topi (fun x18 ex18 => ?_)
  refine lv_aload_n hx hb dL_law_251 rfl (lv_at hl 3 rfl) ?_
  refine lv_iload_n hx hb dL_law_252 rfl (lv_at hl 0 rfl) ?_
  refine lv_iconst (v := 2) hx hb dL_law_253 (by decide) ?_
  refine lv_iadd hx hb dL_law_254 ?_
  refine lv_topi (fun x19 ex19 => ?_)
  have tx19 : x19.toInt = i.toInt + 2 := z_tadd ex19 rfl z_l2 (by omega) (by omega)
  refine va_sld hx hb hX hbl hbA hS (z_ix rfl (by omega) (by omega)) dL_law_255 ?_
  refine lv_topi (fun x20 ex20 => ?_)
  refine lv_aload_n hx hb dL_law_256 rfl (lv_at hl 3 rfl) ?_
  refine lv_iload_n hx hb dL_law_257 rfl (lv_at hl 0 rfl) ?_
  refine lv_iconst (v := 3) hx hb dL_law_258 (by decide) ?_
  refine lv_iadd hx hb dL_law_259 ?_
  refine lv_topi (fun x21 ex21 => ?_)
  have tx21 : x21.toInt = i.toInt + 3 := z_tadd ex21 rfl z_l3 (by omega) (by omega)
  refine va_sld hx hb hX hbl hbA hS (z_ix rfl (by omega) (by omega)) dL_law_260 ?_
  refine lv_topi (fun x22 ex22 => ?_)
  refine lv_aload_n hx hb dL_law_261 rfl (lv_at hl 3 rfl) ?_
  refine lv_iload_n hx hb dL_law_262 rfl (lv_at hl 0 rfl) ?_
  refine lv_iconst (v := 4) hx hb dL_law_263 (by decide) ?_
  refine lv_iadd hx hb dL_law_264 ?_
  refine lv_topi (fun x23 ex23 => ?_)
  have tx23 : x23.toInt = i.toInt + 4 := z_tadd ex23 rfl z_l4 (by omega) (by omega)
  refine va_sld hx hb hX hbl hbA hS (z_ix rfl (by omega) (by omega)) dL_law_265 ?_
  refine lv_topi (fun x24 ex24 => ?_)
  refine lv_aload_n hx hb dL_law_266 rfl (lv_at hl 3 rfl) ?_
  refine lv_iload_n hx hb dL_law_267 rfl (lv_at hl 0 rfl) ?_
  refine lv_iconst (v := 5) hx hb dL_law_268 (by decide) ?_
  refine lv_iadd hx hb dL_law_269 ?_
  refine lv_topi (fun x25 ex25 => ?_)
  have tx25 : x25.toInt = i.toInt + 5 := z_tadd ex25 rfl z_l5 (by omega) (by omega)
  refine va_sld hx hb hX hbl hbA hS (z_ix rfl (by omega) (by omega)) dL_law_270 ?_
  refine lv_topi (fun x26 ex26 => ?_)
  refine z_ciD hWM hWX (fun i j hi hj e => hap j i hj hi e.symm) hS hA (va_runV (As := [.int x18, .int x20, .int x22, .int x24, .int x26]) (rest := []) ⟨hx, hb, hml, hown, hts0⟩ (sx_X12_holder_e l G adM Im Jm hLM.1 x18 x20 x22 x24 x26 _) (cwV 5 hts0 gV_X12_holder rfl rfl rfl (by decide +kernel) ⟨(Nat.le_of_ble_eq_true rfl), (Nat.le_of_ble_eq_true rfl)⟩) (z_preV (i := 0) hK hWM rfl rfl) rfl rfl hl.1 rfl (lv_room (Nat.le_of_ble_eq_true rfl)) dL_law_271 ⟨(by show cells + 0 + 0 ≤ 600000; omega), (by show slots + 0 + 0 ≤ 7302250; omega)⟩) (fun r u1 H locs hp hWM hWX hapn hS => ?_)
  obtain ⟨I27, J28, rfl, p29, p30, p31⟩ := hp
  have hLMI27 : z_LM I27 := ⟨p29, ⟨(by show 0 ≤ (I27 0 13).toInt ∧ (I27 0 13).toInt ≤ 12; rw [p30 0 13 (by decide)]; exact hLM.2.1.1), (by show 0 ≤ (I27 0 14).toInt ∧ (I27 0 14).toInt ≤ 288; rw [p30 0 14 (by decide)]; exact hLM.2.1.2)⟩, (by show 0 ≤ (I27 0 15).toInt ∧ (I27 0 15).toInt ≤ 6100; rw [p30 0 15 (by decide)]; exact hLM.2.2.1), ⟨(by show 0 ≤ (I27 0 31).toInt ∧ (I27 0 31).toInt ≤ 500; rw [p30 0 31 (by decide)]; exact hLM.2.2.2.1.1), (by show 0 ≤ (I27 0 33).toInt ∧ (I27 0 33).toInt ≤ 500; rw [p30 0 33 (by decide)]; exact hLM.2.2.2.1.2.1), (by show 0 ≤ (I27 0 34).toInt ∧ (I27 0 34).toInt ≤ 500; rw [p30 0 34 (by decide)]; exact hLM.2.2.2.1.2.2.1), (by show 0 ≤ (I27 0 35).toInt ∧ (I27 0 35).toInt ≤ 500; rw [p30 0 35 (by decide)]; exact hLM.2.2.2.1.2.2.2)⟩, ⟨(by show 0 ≤ (I27 0 36).toInt ∧ (I27 0 36).toInt ≤ 4; rw [p30 0 36 (by decide)]; exact hLM.2.2.2.2.1.1), (by show 0 ≤ (I27 0 42).toInt ∧ (I27 0 42).toInt ≤ 1; rw [p30 0 42 (by decide)]; exact hLM.2.2.2.2.1.2)⟩, ⟨(by show 0 ≤ (I27 0 47).toInt ∧ (I27 0 47).toInt ≤ 119; rw [p30 0 47 (by decide)]; exact hLM.2.2.2.2.2.1.1), (by show 0 ≤ (I27 0 39).toInt ∧ (I27 0 39).toInt ≤ 100; rw [p30 0 39 (by decide)]; exact hLM.2.2.2.2.2.1.2)⟩, (by show 0 ≤ (I27 0 40).toInt ∧ (I27 0 40).toInt ≤ 6199; rw [p30 0 40 (by decide)]; exact hLM.2.2.2.2.2.2.1), ⟨(by show 0 ≤ (I27 0 54).toInt ∧ (I27 0 54).toInt ≤ 10; rw [p30 0 54 (by decide)]; exact hLM.2.2.2.2.2.2.2.1.1), (by show 0 ≤ (I27 0 55).toInt ∧ (I27 0 55).toInt ≤ 300; rw [p30 0 55 (by decide)]; exact hLM.2.2.2.2.2.2.2.1.2)⟩, (by show 0 ≤ (I27 0 75).toInt ∧ (I27 0 75).toInt ≤ 4; rw [p30 0 75 (by decide)]; exact hLM.2.2.2.2.2.2.2.2.1), (by show 0 ≤ (I27 0 83).toInt ∧ (I27 0 83).toInt ≤ 60; rw [p30 0 83 (by decide)]; exact hLM.2.2.2.2.2.2.2.2.2.1), (z_rg_fr hLM.2.2.2.2.2.2.2.2.2.2.1 p30 (by decide)), (z_rg_fr hLM.2.2.2.2.2.2.2.2.2.2.2.1 p30 (by decide)), (z_rg_fr hLM.2.2.2.2.2.2.2.2.2.2.2.2.1 p30 (by decide)), (z_rg_fr hLM.2.2.2.2.2.2.2.2.2.2.2.2.2.1 p30 (by decide)), (z_rg_fr hLM.2.2.2.2.2.2.2.2.2.2.2.2.2.2.1 p30 (by decide)), (z_rg_fr hLM.2.2.2.2.2.2.2.2.2.2.2.2.2.2.2.1 p30 (by decide)), (z_rg_fr hLM.2.2.2.2.2.2.2.2.2.2.2.2.2.2.2.2.1 p30 (by decide)), (z_rg_fr hLM.2.2.2.2.2.2.2.2.2.2.2.2.2.2.2.2.2.1 p30 (by decide)), (z_rg_fr hLM.2.2.2.2.2.2.2.2.2.2.2.2.2.2.2.2.2.2.1 p30 (by decide)), (z_rg_fr hLM.2.2.2.2.2.2.2.2.2.2.2.2.2.2.2.2.2.2.2.1 p30 (by decide)), (z_Nd_fr hLM.2.2.2.2.2.2.2.2.2.2.2.2.2.2.2.2.2.2.2.2.1 p30 (by decide)), (z_Ex_fr hLM.2.2.2.2.2.2.2.2.2.2.2.2.2.2.2.2.2.2.2.2.2.1 p30 (by decide)), (z_rg_fr hLM.2.2.2.2.2.2.2.2.2.2.2.2.2.2.2.2.2.2.2.2.2.2.1 p30 (by decide)), (z_rg_fr hLM.2.2.2.2.2.2.2.2.2.2.2.2.2.2.2.2.2.2.2.2.2.2.2.1 p30 (by decide)), (z_rg_fr hLM.2.2.2.2.2.2.2.2.2.2.2.2.2.2.2.2.2.2.2.2.2.2.2.2.1 p30 (by decide)), (z_rg_fr hLM.2.2.2.2.2.2.2.2.2.2.2.2.2.2.2.2.2.2.2.2.2.2.2.2.2.1 p30 (by decide)), (z_rg_fr hLM.2.2.2.2.2.2.2.2.2.2.2.2.2.2.2.2.2.2.2.2.2.2.2.2.2.2.1 p30 (by decide)), (z_rg_fr hLM.2.2.2.2.2.2.2.2.2.2.2.2.2.2.2.2.2.2.2.2.2.2.2.2.2.2.2.1 p30 (by decide)), (z_rg_fr hLM.2.2.2.2.2.2.2.2.2.2.2.2.2.2.2.2.2.2.2.2.2.2.2.2.2.2.2.2.1 p30 (by decide)), (by unfold z_iro; rw [p30 0 13 (by decide), p30 0 14 (by decide), p30 0 15 (by decide)]; exact hLM.2.2.2.2.2.2.2.2.2.2.2.2.2.2.2.2.2.2.2.2.2.2.2.2.2.2.2.2.2)⟩
  have hap := fun i j hi hj e => hapn j i hj hi (Eq.symm e)
  refine lv_topi (fun x32 ex32 => ?_)
  rw [← ex32] at p31
  refine lv_pop hx hb dL_law_274 rfl ?_
  refine lv_goto (tgt := 1508) hx hb dL_law_275 (by decide) ?_
  have hqtoday : (Ix 0 0).toInt = (Im 0 0).toInt := congrArg Int32.toInt (show Ix 0 0 = Im 0 0 from htd.1)
  have hqholders : (Ix 1 5).toInt = (Im 0 1).toInt := congrArg Int32.toInt (show Ix 1 5 = Im 0 1 from htd.2.1)
  have hqjourneys : (Ix 60 9).toInt = (Im 0 83).toInt := congrArg Int32.toInt (show Ix 60 9 = Im 0 83 from htd.2.2)
  have hv0 : x2.toInt = x18.toInt := by rw [ex2, ex18, ex1, ex17]
  have hv1 : x4.toInt = x20.toInt := by rw [ex4, ex20, ex3, ex19]
  have hv2 : x6.toInt = x22.toInt := by rw [ex6, ex22, ex5, ex21]
  have hv3 : x8.toInt = x24.toInt := by rw [ex8, ex24, ex7, ex23]
  have hv4 : x10.toInt = x26.toInt := by rw [ex10, ex26, ex9, ex25]
  have hEQ9 : z_EQ I11 I27 := ⟨(by rw [p14 0 0 (by decide), p30 0 0 (by decide)]; exact htd.1), (Int32.toInt_inj.mp (by omega)), (by rw [p14 60 9 (by decide), p30 0 83 (by decide)]; exact htd.2.2)⟩
  refine W.widen (k := cells + 8) (n := slots + 2006) (by omega) (by omega) ?_
  exact kk c ad I11 I27 J28 _ _ _ hLXI11 hLMI27 hEQ9 hWX hWM hap hS (lv_sub hl [0, 1, 2, 3] rfl)
set_option maxHeartbeats 8000000 in
set_option maxRecDepth 100000 in
theorem lc_2 {p : Program} {e : Env} {s : State} {m : MethodId} {below : List Frame} {meth : Method} {c0 : Code} {b L : Nat} {xs : Nat → Int32} (l : Launch) {G : z_G} {A : Nat → Prop} {adK adV : Nat → Nat} (hK : z_K G s) (hA : ∀ q : Nat, s.heap.size ≤ q → A q) (hAi : ∀ q : Nat, A q → s.heap.size ≤ q) (hSt : z_St A s s.heap) (hKn : z_Cq adK adV A s s.heap) (hL : L ≤ 3584) (C0 : lw_At p s m meth c0 b L xs) {c : z_C} {ad adM : Nat → Nat} {Ix Im : z_I} {Jm : z_J} (hLX : z_LX c Ix) (hLM : z_LM Im) (htd : z_EQ Ix Im) {H : Heap} {locs : List Loc} {ls : Array Slot} (hWX : z_W G A (shC c, ad, Ix, JX, PC c ad) H) (hWM : z_W G A (shM, adM, Im, Jm, PM adM) H) (hap : ∀ i j, shC c i ≠ none → shM j ≠ none → ad i ≠ adM j) (hS : va_S A s.heap H locs) {i : Int32} (hi0 : 0 ≤ i.toInt) (hiL : i.toInt + 7 ≤ (L : Int)) (hl : lv_has ls 4 [(3, .int i), (2, .ref (adM 0)), (1, .ref (ad 0)), (0, .ref b)]) {cells slots : Nat} (hce : cells + 8 ≤ 600000) (hsl : slots + 2006 ≤ 7302250) (kk : ∀ (c : z_C) (ad : Nat → Nat) (Ix Im : z_I) (Jm : z_J) (H : Heap) (locs : List Loc) (ls : Array Slot), z_LX c Ix → z_LM Im → z_EQ Ix Im → z_W G A (shC c, ad, Ix, JX, PC c ad) H → z_W G A (shM, adM, Im, Jm, PM adM) H → (∀ i j, shC c i ≠ none → shM j ≠ none → ad i ≠ adM j) → va_S A s.heap H locs → lv_has ls 4 [(3, .int i), (2, .ref (adM 0)), (1, .ref (ad 0)), (0, .ref b)] → W p l e room_1 s m #[Value.ref b] below meth c0 H locs (cells + 8) (slots + 2006) (lw_Z below #[Value.ref b] s) (F0 m 1508 ls [])) : W p l e room_1 s m #[Value.ref b] below meth c0 H locs (cells) (slots) (lw_Z below #[Value.ref b] s) (F0 m 278 ls []) := by
  obtain ⟨hx, hb, hr, hml, hown, hts0, hX, hbl, hlocks, hgv⟩ := id C0
  have hown : s.vm.findClass RL = some m.cls := hown
  have hts : ∀ w ∈ wsL_law, w.before #[Value.ref b] s = true := fun w hw => hts0 w (wsL_law_in w hw)
  have hbA : ¬ A b := fun h => absurd (hAi b h) (Nat.not_le.mpr hbl)
  have hLi : (L : Int) ≤ 3584 := by omega
  refine lv_aload_n hx hb dL_law_278 rfl (lv_at hl 2 rfl) ?_
  refine lv_aload_n hx hb dL_law_279 rfl (lv_at hl 3 rfl) ?_
  refine lv_iload_n hx hb dL_law_280 rfl (lv_at hl 0 rfl) ?_
  refine lv_iconst (v := 1) hx hb dL_law_281 (by decide) ?_
  refine lv_iadd hx hb dL_law_282 ?_
  refine lv_topi (fun x1 ex1 => ?_)
  have tx1 : x1.toInt = i.toInt + 1 := z_tadd ex1 rfl z_l1 (by omega) (by omega)
  refine va_sld hx hb hX hbl hbA hS (z_ix rfl (by omega) (by omega)) dL_law_283 ?_
  refine lv_topi (fun x2 ex2 => ?_)
  refine lv_aload_n hx hb dL_law_284 rfl (lv_at hl 3 rfl) ?_
  refine lv_iload_n hx hb dL_law_285 rfl (lv_at hl 0 rfl) ?_
  refine lv_iconst (v := 2) hx hb dL_law_286 (by decide) ?_
  refine lv_iadd hx hb dL_law_287 ?_
  refine lv_topi (fun x3 ex3 => ?_)
  have tx3 : x3.toInt = i.toInt + 2 := z_tadd ex3 rfl z_l2 (by omega) (by omega)
  refine va_sld hx hb hX hbl hbA hS (z_ix rfl (by omega) (by omega)) dL_law_288 ?_
  refine lv_topi (fun x4 ex4 => ?_)
  refine lv_aload_n hx hb dL_law_289 rfl (lv_at hl 3 rfl) ?_
  refine lv_iload_n hx hb dL_law_290 rfl (lv_at hl 0 rfl) ?_
  refine lv_iconst (v := 3) hx hb dL_law_291 (by decide) ?_
  refine lv_iadd hx hb dL_law_292 ?_
  refine lv_topi (fun x5 ex5 => ?_)
  have tx5 : x5.toInt = i.toInt + 3 := z_tadd ex5 rfl z_l3 (by omega) (by omega)
  refine va_sld hx hb hX hbl hbA hS (z_ix rfl (by omega) (by omega)) dL_law_293 ?_
  refine lv_topi (fun x6 ex6 => ?_)
  refine z_ciD hWX hWM hap hS hA (va_runV (As := [.int x2, .int x4, .int x6]) (rest := []) ⟨hx, hb, hml, hown, hts0⟩ (sx_X11_note l G ad c Ix hLX.2.2.2.2.2.2.2.2.1 hLX.1 x2 x4 x6 hLX.2.2.2.2.2.2.2.2.2.1 hLX.2.2.2.2.2.2.2.2.2.2.1 _) (cwV 3 hts0 gV_X11_note rfl rfl rfl (by decide +kernel) ⟨(Nat.le_of_ble_eq_true rfl), (Nat.le_of_ble_eq_true rfl)⟩) (z_preV (i := 0) hK hWX rfl rfl) rfl rfl hl.1 rfl (lv_room (Nat.le_of_ble_eq_true rfl)) dL_law_294 ⟨(by show cells + 0 ≤ 600000; omega), (by show slots + 0 ≤ 7302250; omega)⟩) (fun r u1 H locs hp hWX hWM hap hS => ?_)
  obtain ⟨I7, rfl, p9, p10, p11⟩ := hp
  have hLXI7 : z_LX c I7 := ⟨p10, ⟨(by show 0 ≤ (I7 12 1).toInt ∧ (I7 12 1).toInt ≤ 500; rw [p11 12 1 (by decide)]; exact hLX.2.1.1), (by show 0 ≤ (I7 12 5).toInt ∧ (I7 12 5).toInt ≤ 501; rw [p11 12 5 (by decide)]; exact hLX.2.1.2.1), (by show (-1) ≤ (I7 12 6).toInt ∧ (I7 12 6).toInt ≤ 1000000; rw [p11 12 6 (by decide)]; exact hLX.2.1.2.2.1), (by show 0 ≤ (I7 12 9).toInt ∧ (I7 12 9).toInt ≤ 500; rw [p11 12 9 (by decide)]; exact hLX.2.1.2.2.2.1), (by show 0 ≤ (I7 12 13).toInt ∧ (I7 12 13).toInt ≤ 24; rw [p11 12 13 (by decide)]; exact hLX.2.1.2.2.2.2)⟩, (by show 0 ≤ (I7 21 2).toInt ∧ (I7 21 2).toInt ≤ 12; rw [p11 21 2 (by decide)]; exact hLX.2.2.1), (by show 0 ≤ (I7 26 4).toInt ∧ (I7 26 4).toInt ≤ 512; rw [p11 26 4 (by decide)]; exact hLX.2.2.2.1), (by show 0 ≤ (I7 30 8).toInt ∧ (I7 30 8).toInt ≤ 300; rw [p11 30 8 (by decide)]; exact hLX.2.2.2.2.1), (by show 0 ≤ (I7 41 10).toInt ∧ (I7 41 10).toInt ≤ 4; rw [p11 41 10 (by decide)]; exact hLX.2.2.2.2.2.1), ⟨(by show 0 ≤ (I7 60 9).toInt ∧ (I7 60 9).toInt ≤ 60; rw [p11 60 9 (by decide)]; exact hLX.2.2.2.2.2.2.1.1), (by show 0 ≤ (I7 60 12).toInt ∧ (I7 60 12).toInt ≤ 12; rw [p11 60 12 (by decide)]; exact hLX.2.2.2.2.2.2.1.2)⟩, (by show 0 ≤ (I7 72 2).toInt ∧ (I7 72 2).toInt ≤ 30; rw [p11 72 2 (by decide)]; exact hLX.2.2.2.2.2.2.2.1), p9, hLX.2.2.2.2.2.2.2.2.2.1, hLX.2.2.2.2.2.2.2.2.2.2.1, (z_iS_fr hLX.2.2.2.2.2.2.2.2.2.2.2.1 p11 (by decide)), (by rw [p11 0 8 (by decide)]; exact hLX.2.2.2.2.2.2.2.2.2.2.2.2.1), (by rw [p11 21 2 (by decide)]; exact hLX.2.2.2.2.2.2.2.2.2.2.2.2.2)⟩
  refine lv_topi (fun x12 ex12 => ?_)
  refine lv_pop hx hb dL_law_297 rfl ?_
  refine lv_aload_n hx hb dL_law_298 rfl (lv_at hl 1 rfl) ?_
  refine lv_aload_n hx hb dL_law_299 rfl (lv_at hl 3 rfl) ?_
  refine lv_iload_n hx hb dL_law_300 rfl (lv_at hl 0 rfl) ?_
  refine lv_iconst (v := 1) hx hb dL_law_301 (by decide) ?_
  refine lv_iadd hx hb dL_law_302 ?_
  refine lv_topi (fun x13 ex13 => ?_)
  have tx13 : x13.toInt = i.toInt + 1 := z_tadd ex13 rfl z_l1 (by omega) (by omega)
  refine va_sld hx hb hX hbl hbA hS (z_ix rfl (by omega) (by omega)) dL_law_303 ?_
  refine lv_topi (fun x14 ex14 => ?_)
  refine lv_aload_n hx hb dL_law_304 rfl (lv_at hl 3 rfl) ?_
  refine lv_iload_n hx hb dL_law_305 rfl (lv_at hl 0 rfl) ?_
  refine lv_iconst (v := 2) hx hb dL_law_306 (by decide) ?_
  refine lv_iadd hx hb dL_law_307 ?_
  refine lv_topi (fun x15 ex15 => ?_)
  have tx15 : x15.toInt = i.toInt + 2 := z_tadd ex15 rfl z_l2 (by omega) (by omega)
  refine va_sld hx hb hX hbl hbA hS (z_ix rfl (by omega) (by omega)) dL_law_308 ?_
  refine lv_topi (fun x16 ex16 => ?_)
  refine lv_aload_n hx hb dL_law_309 rfl (lv_at hl 3 rfl) ?_
  refine lv_iload_n hx hb dL_law_310 rfl (lv_at hl 0 rfl) ?_
  refine lv_iconst (v := 3) hx hb dL_law_311 (by decide) ?_
  refine lv_iadd hx hb dL_law_312 ?_
  refine lv_topi (fun x17 ex17 => ?_)
  have tx17 : x17.toInt = i.toInt + 3 := z_tadd ex17 rfl z_l3 (by omega) (by omega)
  refine va_sld hx hb hX hbl hbA hS (z_ix rfl (by omega) (by omega)) dL_law_313 ?_
  refine lv_topi (fun x18 ex18 => ?_)
  refine z_ciD hWM hWX (fun i j hi hj e => hap j i hj hi e.symm) hS hA (va_runV (As := [.int x14, .int x16, .int x18]) (rest := []) ⟨hx, hb, hml, hown, hts0⟩ (sx_X12_note l G adM Im Jm hLM.1 x14 x16 x18 _) (cwV 3 hts0 gV_X12_note rfl rfl rfl (by decide +kernel) ⟨(Nat.le_of_ble_eq_true rfl), (Nat.le_of_ble_eq_true rfl)⟩) (z_preV (i := 0) hK hWM rfl rfl) rfl rfl hl.1 rfl (lv_room (Nat.le_of_ble_eq_true rfl)) dL_law_314 ⟨(by show cells + 0 + 0 ≤ 600000; omega), (by show slots + 0 + 0 ≤ 7302250; omega)⟩) (fun r u1 H locs hp hWM hWX hapn hS => ?_)
  obtain ⟨I19, J20, rfl, p21, p22⟩ := hp
  have hLMI19 : z_LM I19 := ⟨p21, ⟨(by show 0 ≤ (I19 0 13).toInt ∧ (I19 0 13).toInt ≤ 12; rw [p22 0 13 (by decide)]; exact hLM.2.1.1), (by show 0 ≤ (I19 0 14).toInt ∧ (I19 0 14).toInt ≤ 288; rw [p22 0 14 (by decide)]; exact hLM.2.1.2)⟩, (by show 0 ≤ (I19 0 15).toInt ∧ (I19 0 15).toInt ≤ 6100; rw [p22 0 15 (by decide)]; exact hLM.2.2.1), ⟨(by show 0 ≤ (I19 0 31).toInt ∧ (I19 0 31).toInt ≤ 500; rw [p22 0 31 (by decide)]; exact hLM.2.2.2.1.1), (by show 0 ≤ (I19 0 33).toInt ∧ (I19 0 33).toInt ≤ 500; rw [p22 0 33 (by decide)]; exact hLM.2.2.2.1.2.1), (by show 0 ≤ (I19 0 34).toInt ∧ (I19 0 34).toInt ≤ 500; rw [p22 0 34 (by decide)]; exact hLM.2.2.2.1.2.2.1), (by show 0 ≤ (I19 0 35).toInt ∧ (I19 0 35).toInt ≤ 500; rw [p22 0 35 (by decide)]; exact hLM.2.2.2.1.2.2.2)⟩, ⟨(by show 0 ≤ (I19 0 36).toInt ∧ (I19 0 36).toInt ≤ 4; rw [p22 0 36 (by decide)]; exact hLM.2.2.2.2.1.1), (by show 0 ≤ (I19 0 42).toInt ∧ (I19 0 42).toInt ≤ 1; rw [p22 0 42 (by decide)]; exact hLM.2.2.2.2.1.2)⟩, ⟨(by show 0 ≤ (I19 0 47).toInt ∧ (I19 0 47).toInt ≤ 119; rw [p22 0 47 (by decide)]; exact hLM.2.2.2.2.2.1.1), (by show 0 ≤ (I19 0 39).toInt ∧ (I19 0 39).toInt ≤ 100; rw [p22 0 39 (by decide)]; exact hLM.2.2.2.2.2.1.2)⟩, (by show 0 ≤ (I19 0 40).toInt ∧ (I19 0 40).toInt ≤ 6199; rw [p22 0 40 (by decide)]; exact hLM.2.2.2.2.2.2.1), ⟨(by show 0 ≤ (I19 0 54).toInt ∧ (I19 0 54).toInt ≤ 10; rw [p22 0 54 (by decide)]; exact hLM.2.2.2.2.2.2.2.1.1), (by show 0 ≤ (I19 0 55).toInt ∧ (I19 0 55).toInt ≤ 300; rw [p22 0 55 (by decide)]; exact hLM.2.2.2.2.2.2.2.1.2)⟩, (by show 0 ≤ (I19 0 75).toInt ∧ (I19 0 75).toInt ≤ 4; rw [p22 0 75 (by decide)]; exact hLM.2.2.2.2.2.2.2.2.1), (by show 0 ≤ (I19 0 83).toInt ∧ (I19 0 83).toInt ≤ 60; rw [p22 0 83 (by decide)]; exact hLM.2.2.2.2.2.2.2.2.2.1), (z_rg_fr hLM.2.2.2.2.2.2.2.2.2.2.1 p22 (by decide)), (z_rg_fr hLM.2.2.2.2.2.2.2.2.2.2.2.1 p22 (by decide)), (z_rg_fr hLM.2.2.2.2.2.2.2.2.2.2.2.2.1 p22 (by decide)), (z_rg_fr hLM.2.2.2.2.2.2.2.2.2.2.2.2.2.1 p22 (by decide)), (z_rg_fr hLM.2.2.2.2.2.2.2.2.2.2.2.2.2.2.1 p22 (by decide)), (z_rg_fr hLM.2.2.2.2.2.2.2.2.2.2.2.2.2.2.2.1 p22 (by decide)), (z_rg_fr hLM.2.2.2.2.2.2.2.2.2.2.2.2.2.2.2.2.1 p22 (by decide)), (z_rg_fr hLM.2.2.2.2.2.2.2.2.2.2.2.2.2.2.2.2.2.1 p22 (by decide)), (z_rg_fr hLM.2.2.2.2.2.2.2.2.2.2.2.2.2.2.2.2.2.2.1 p22 (by decide)), (z_rg_fr hLM.2.2.2.2.2.2.2.2.2.2.2.2.2.2.2.2.2.2.2.1 p22 (by decide)), (z_Nd_fr hLM.2.2.2.2.2.2.2.2.2.2.2.2.2.2.2.2.2.2.2.2.1 p22 (by decide)), (z_Ex_fr hLM.2.2.2.2.2.2.2.2.2.2.2.2.2.2.2.2.2.2.2.2.2.1 p22 (by decide)), (z_rg_fr hLM.2.2.2.2.2.2.2.2.2.2.2.2.2.2.2.2.2.2.2.2.2.2.1 p22 (by decide)), (z_rg_fr hLM.2.2.2.2.2.2.2.2.2.2.2.2.2.2.2.2.2.2.2.2.2.2.2.1 p22 (by decide)), (z_rg_fr hLM.2.2.2.2.2.2.2.2.2.2.2.2.2.2.2.2.2.2.2.2.2.2.2.2.1 p22 (by decide)), (z_rg_fr hLM.2.2.2.2.2.2.2.2.2.2.2.2.2.2.2.2.2.2.2.2.2.2.2.2.2.1 p22 (by decide)), (z_rg_fr hLM.2.2.2.2.2.2.2.2.2.2.2.2.2.2.2.2.2.2.2.2.2.2.2.2.2.2.1 p22 (by decide)), (z_rg_fr hLM.2.2.2.2.2.2.2.2.2.2.2.2.2.2.2.2.2.2.2.2.2.2.2.2.2.2.2.1 p22 (by decide)), (z_rg_fr hLM.2.2.2.2.2.2.2.2.2.2.2.2.2.2.2.2.2.2.2.2.2.2.2.2.2.2.2.2.1 p22 (by decide)), (by unfold z_iro; rw [p22 0 13 (by decide), p22 0 14 (by decide), p22 0 15 (by decide)]; exact hLM.2.2.2.2.2.2.2.2.2.2.2.2.2.2.2.2.2.2.2.2.2.2.2.2.2.2.2.2.2)⟩
  have hap := fun i j hi hj e => hapn j i hj hi (Eq.symm e)
  refine lv_topi (fun x23 ex23 => ?_)
  refine lv_pop hx hb dL_law_317 rfl ?_
  refine lv_goto (tgt := 1508) hx hb dL_law_318 (by decide) ?_
  have hEQ9 : z_EQ I7 I19 := ⟨(by rw [p11 0 0 (by decide), p22 0 0 (by decide)]; exact htd.1), (by rw [p11 1 5 (by decide), p22 0 1 (by decide)]; exact htd.2.1), (by rw [p11 60 9 (by decide), p22 0 83 (by decide)]; exact htd.2.2)⟩
  refine W.widen (k := cells + 8) (n := slots + 2006) (by omega) (by omega) ?_
  exact kk c ad I7 I19 J20 _ _ _ hLXI7 hLMI19 hEQ9 hWX hWM hap hS (lv_sub hl [0, 1, 2, 3] rfl)
set_option maxHeartbeats 8000000 in
set_option maxRecDepth 100000 in
theorem lc_3 {p : Program} {e : Env} {s : State} {m : MethodId} {below : List Frame} {meth : Method} {c0 : Code} {b L : Nat} {xs : Nat → Int32} (l : Launch) {G : z_G} {A : Nat → Prop} {adK adV : Nat → Nat} (hK : z_K G s) (hA : ∀ q : Nat, s.heap.size ≤ q → A q) (hAi : ∀ q : Nat, A q → s.heap.size ≤ q) (hSt : z_St A s s.heap) (hKn : z_Cq adK adV A s s.heap) (hL : L ≤ 3584) (C0 : lw_At p s m meth c0 b L xs) {c : z_C} {ad adM : Nat → Nat} {Ix Im : z_I} {Jm : z_J} (hLX : z_LX c Ix) (hLM : z_LM Im) (htd : z_EQ Ix Im) {H : Heap} {locs : List Loc} {ls : Array Slot} (hWX : z_W G A (shC c, ad, Ix, JX, PC c ad) H) (hWM : z_W G A (shM, adM, Im, Jm, PM adM) H) (hap : ∀ i j, shC c i ≠ none → shM j ≠ none → ad i ≠ adM j) (hS : va_S A s.heap H locs) {i : Int32} (hi0 : 0 ≤ i.toInt) (hiL : i.toInt + 7 ≤ (L : Int)) (hl : lv_has ls 4 [(3, .int i), (2, .ref (adM 0)), (1, .ref (ad 0)), (0, .ref b)]) {cells slots : Nat} (hce : cells + 8 ≤ 600000) (hsl : slots + 2006 ≤ 7302250) (kk : ∀ (c : z_C) (ad : Nat → Nat) (Ix Im : z_I) (Jm : z_J) (H : Heap) (locs : List Loc) (ls : Array Slot), z_LX c Ix → z_LM Im → z_EQ Ix Im → z_W G A (shC c, ad, Ix, JX, PC c ad) H → z_W G A (shM, adM, Im, Jm, PM adM) H → (∀ i j, shC c i ≠ none → shM j ≠ none → ad i ≠ adM j) → va_S A s.heap H locs → lv_has ls 4 [(3, .int i), (2, .ref (adM 0)), (1, .ref (ad 0)), (0, .ref b)] → W p l e room_1 s m #[Value.ref b] below meth c0 H locs (cells + 8) (slots + 2006) (lw_Z below #[Value.ref b] s) (F0 m 1508 ls [])) : W p l e room_1 s m #[Value.ref b] below meth c0 H locs (cells) (slots) (lw_Z below #[Value.ref b] s) (F0 m 321 ls []) := by
  obtain ⟨hx, hb, hr, hml, hown, hts0, hX, hbl, hlocks, hgv⟩ := id C0
  have hown : s.vm.findClass RL = some m.cls := hown
  have hts : ∀ w ∈ wsL_law, w.before #[Value.ref b] s = true := fun w hw => hts0 w (wsL_law_in w hw)
  have hbA : ¬ A b := fun h => absurd (hAi b h) (Nat.not_le.mpr hbl)
  have hLi : (L : Int) ≤ 3584 := by omega
  refine lv_aload_n hx hb dL_law_321 rfl (lv_at hl 2 rfl) ?_
  refine lv_aload_n hx hb dL_law_322 rfl (lv_at hl 3 rfl) ?_
  refine lv_iload_n hx hb dL_law_323 rfl (lv_at hl 0 rfl) ?_
  refine lv_iconst (v := 1) hx hb dL_law_324 (by decide) ?_
  refine lv_iadd hx hb dL_law_325 ?_
  refine lv_topi (fun x1 ex1 => ?_)
  have tx1 : x1.toInt = i.toInt + 1 := z_tadd ex1 rfl z_l1 (by omega) (by omega)
  refine va_sld hx hb hX hbl hbA hS (z_ix rfl (by omega) (by omega)) dL_law_326 ?_
  refine lv_topi (fun x2 ex2 => ?_)
  refine z_ciD hWX hWM hap hS hA (va_runV (As := [.int x2]) (rest := []) ⟨hx, hb, hml, hown, hts0⟩ (sx_X11_undo l G ad c Ix hLX.2.2.2.2.2.2.2.2.1 hLX.1 x2 hLX.2.2.2.2.2.2.2.2.2.1 hLX.2.2.2.2.2.2.2.2.2.2.1 _) (cwV 1 hts0 gV_X11_undo rfl rfl rfl (by decide +kernel) ⟨(Nat.le_of_ble_eq_true rfl), (Nat.le_of_ble_eq_true rfl)⟩) (z_preV (i := 0) hK hWX rfl rfl) rfl rfl hl.1 rfl (lv_room (Nat.le_of_ble_eq_true rfl)) dL_law_327 ⟨(by show cells + 0 ≤ 600000; omega), (by show slots + 0 ≤ 7302250; omega)⟩) (fun r u1 H locs hp hWX hWM hap hS => ?_)
  obtain ⟨I3, rfl, p5, p6, p7, p8⟩ := hp
  have hLXI3 : z_LX c I3 := ⟨p6, ⟨(by show 0 ≤ (I3 12 1).toInt ∧ (I3 12 1).toInt ≤ 500; rw [p7 12 1 (by decide)]; exact hLX.2.1.1), (by show 0 ≤ (I3 12 5).toInt ∧ (I3 12 5).toInt ≤ 501; rw [p7 12 5 (by decide)]; exact hLX.2.1.2.1), (by show (-1) ≤ (I3 12 6).toInt ∧ (I3 12 6).toInt ≤ 1000000; rw [p7 12 6 (by decide)]; exact hLX.2.1.2.2.1), (by show 0 ≤ (I3 12 9).toInt ∧ (I3 12 9).toInt ≤ 500; rw [p7 12 9 (by decide)]; exact hLX.2.1.2.2.2.1), (by show 0 ≤ (I3 12 13).toInt ∧ (I3 12 13).toInt ≤ 24; rw [p7 12 13 (by decide)]; exact hLX.2.1.2.2.2.2)⟩, (by show 0 ≤ (I3 21 2).toInt ∧ (I3 21 2).toInt ≤ 12; rw [p7 21 2 (by decide)]; exact hLX.2.2.1), (by show 0 ≤ (I3 26 4).toInt ∧ (I3 26 4).toInt ≤ 512; rw [p7 26 4 (by decide)]; exact hLX.2.2.2.1), (by show 0 ≤ (I3 30 8).toInt ∧ (I3 30 8).toInt ≤ 300; rw [p7 30 8 (by decide)]; exact hLX.2.2.2.2.1), (by show 0 ≤ (I3 41 10).toInt ∧ (I3 41 10).toInt ≤ 4; rw [p7 41 10 (by decide)]; exact hLX.2.2.2.2.2.1), ⟨(by show 0 ≤ (I3 60 9).toInt ∧ (I3 60 9).toInt ≤ 60; rw [p7 60 9 (by decide)]; exact hLX.2.2.2.2.2.2.1.1), (by show 0 ≤ (I3 60 12).toInt ∧ (I3 60 12).toInt ≤ 12; rw [p7 60 12 (by decide)]; exact hLX.2.2.2.2.2.2.1.2)⟩, (by show 0 ≤ (I3 72 2).toInt ∧ (I3 72 2).toInt ≤ 30; rw [p7 72 2 (by decide)]; exact hLX.2.2.2.2.2.2.2.1), p5, hLX.2.2.2.2.2.2.2.2.2.1, hLX.2.2.2.2.2.2.2.2.2.2.1, (z_iS_fr hLX.2.2.2.2.2.2.2.2.2.2.2.1 p7 (by decide)), (by rw [p7 0 8 (by decide)]; exact hLX.2.2.2.2.2.2.2.2.2.2.2.2.1), (by rw [p7 21 2 (by decide)]; exact hLX.2.2.2.2.2.2.2.2.2.2.2.2.2)⟩
  refine lv_topi (fun x9 ex9 => ?_)
  refine lv_pop hx hb dL_law_330 rfl ?_
  refine lv_aload_n hx hb dL_law_331 rfl (lv_at hl 1 rfl) ?_
  refine lv_aload_n hx hb dL_law_332 rfl (lv_at hl 3 rfl) ?_
  refine lv_iload_n hx hb dL_law_333 rfl (lv_at hl 0 rfl) ?_
  refine lv_iconst (v := 1) hx hb dL_law_334 (by decide) ?_
  refine lv_iadd hx hb dL_law_335 ?_
  refine lv_topi (fun x10 ex10 => ?_)
  have tx10 : x10.toInt = i.toInt + 1 := z_tadd ex10 rfl z_l1 (by omega) (by omega)
  refine va_sld hx hb hX hbl hbA hS (z_ix rfl (by omega) (by omega)) dL_law_336 ?_
  refine lv_topi (fun x11 ex11 => ?_)
  refine z_ciD hWM hWX (fun i j hi hj e => hap j i hj hi e.symm) hS hA (va_runV (As := [.int x11]) (rest := []) ⟨hx, hb, hml, hown, hts0⟩ (sx_X12_undo l G adM Im Jm hLM.1 x11 _) (cwV 1 hts0 gV_X12_undo rfl rfl rfl (by decide +kernel) ⟨(Nat.le_of_ble_eq_true rfl), (Nat.le_of_ble_eq_true rfl)⟩) (z_preV (i := 0) hK hWM rfl rfl) rfl rfl hl.1 rfl (lv_room (Nat.le_of_ble_eq_true rfl)) dL_law_337 ⟨(by show cells + 0 + 0 ≤ 600000; omega), (by show slots + 0 + 0 ≤ 7302250; omega)⟩) (fun r u1 H locs hp hWM hWX hapn hS => ?_)
  obtain ⟨I12, J13, rfl, p14, p15, p16⟩ := hp
  have hLMI12 : z_LM I12 := ⟨p14, ⟨(by show 0 ≤ (I12 0 13).toInt ∧ (I12 0 13).toInt ≤ 12; rw [p15 0 13 (by decide)]; exact hLM.2.1.1), (by show 0 ≤ (I12 0 14).toInt ∧ (I12 0 14).toInt ≤ 288; rw [p15 0 14 (by decide)]; exact hLM.2.1.2)⟩, (by show 0 ≤ (I12 0 15).toInt ∧ (I12 0 15).toInt ≤ 6100; rw [p15 0 15 (by decide)]; exact hLM.2.2.1), ⟨(by show 0 ≤ (I12 0 31).toInt ∧ (I12 0 31).toInt ≤ 500; rw [p15 0 31 (by decide)]; exact hLM.2.2.2.1.1), (by show 0 ≤ (I12 0 33).toInt ∧ (I12 0 33).toInt ≤ 500; rw [p15 0 33 (by decide)]; exact hLM.2.2.2.1.2.1), (by show 0 ≤ (I12 0 34).toInt ∧ (I12 0 34).toInt ≤ 500; rw [p15 0 34 (by decide)]; exact hLM.2.2.2.1.2.2.1), (by show 0 ≤ (I12 0 35).toInt ∧ (I12 0 35).toInt ≤ 500; rw [p15 0 35 (by decide)]; exact hLM.2.2.2.1.2.2.2)⟩, ⟨(by show 0 ≤ (I12 0 36).toInt ∧ (I12 0 36).toInt ≤ 4; rw [p15 0 36 (by decide)]; exact hLM.2.2.2.2.1.1), (by show 0 ≤ (I12 0 42).toInt ∧ (I12 0 42).toInt ≤ 1; rw [p15 0 42 (by decide)]; exact hLM.2.2.2.2.1.2)⟩, ⟨(by show 0 ≤ (I12 0 47).toInt ∧ (I12 0 47).toInt ≤ 119; rw [p15 0 47 (by decide)]; exact hLM.2.2.2.2.2.1.1), (by show 0 ≤ (I12 0 39).toInt ∧ (I12 0 39).toInt ≤ 100; rw [p15 0 39 (by decide)]; exact hLM.2.2.2.2.2.1.2)⟩, (by show 0 ≤ (I12 0 40).toInt ∧ (I12 0 40).toInt ≤ 6199; rw [p15 0 40 (by decide)]; exact hLM.2.2.2.2.2.2.1), ⟨(by show 0 ≤ (I12 0 54).toInt ∧ (I12 0 54).toInt ≤ 10; rw [p15 0 54 (by decide)]; exact hLM.2.2.2.2.2.2.2.1.1), (by show 0 ≤ (I12 0 55).toInt ∧ (I12 0 55).toInt ≤ 300; rw [p15 0 55 (by decide)]; exact hLM.2.2.2.2.2.2.2.1.2)⟩, (by show 0 ≤ (I12 0 75).toInt ∧ (I12 0 75).toInt ≤ 4; rw [p15 0 75 (by decide)]; exact hLM.2.2.2.2.2.2.2.2.1), (by show 0 ≤ (I12 0 83).toInt ∧ (I12 0 83).toInt ≤ 60; rw [p15 0 83 (by decide)]; exact hLM.2.2.2.2.2.2.2.2.2.1), (z_rg_fr hLM.2.2.2.2.2.2.2.2.2.2.1 p15 (by decide)), (z_rg_fr hLM.2.2.2.2.2.2.2.2.2.2.2.1 p15 (by decide)), (z_rg_fr hLM.2.2.2.2.2.2.2.2.2.2.2.2.1 p15 (by decide)), (z_rg_fr hLM.2.2.2.2.2.2.2.2.2.2.2.2.2.1 p15 (by decide)), (z_rg_fr hLM.2.2.2.2.2.2.2.2.2.2.2.2.2.2.1 p15 (by decide)), (z_rg_fr hLM.2.2.2.2.2.2.2.2.2.2.2.2.2.2.2.1 p15 (by decide)), (z_rg_fr hLM.2.2.2.2.2.2.2.2.2.2.2.2.2.2.2.2.1 p15 (by decide)), (z_rg_fr hLM.2.2.2.2.2.2.2.2.2.2.2.2.2.2.2.2.2.1 p15 (by decide)), (z_rg_fr hLM.2.2.2.2.2.2.2.2.2.2.2.2.2.2.2.2.2.2.1 p15 (by decide)), (z_rg_fr hLM.2.2.2.2.2.2.2.2.2.2.2.2.2.2.2.2.2.2.2.1 p15 (by decide)), (z_Nd_fr hLM.2.2.2.2.2.2.2.2.2.2.2.2.2.2.2.2.2.2.2.2.1 p15 (by decide)), (z_Ex_fr hLM.2.2.2.2.2.2.2.2.2.2.2.2.2.2.2.2.2.2.2.2.2.1 p15 (by decide)), (z_rg_fr hLM.2.2.2.2.2.2.2.2.2.2.2.2.2.2.2.2.2.2.2.2.2.2.1 p15 (by decide)), (z_rg_fr hLM.2.2.2.2.2.2.2.2.2.2.2.2.2.2.2.2.2.2.2.2.2.2.2.1 p15 (by decide)), (z_rg_fr hLM.2.2.2.2.2.2.2.2.2.2.2.2.2.2.2.2.2.2.2.2.2.2.2.2.1 p15 (by decide)), (z_rg_fr hLM.2.2.2.2.2.2.2.2.2.2.2.2.2.2.2.2.2.2.2.2.2.2.2.2.2.1 p15 (by decide)), (z_rg_fr hLM.2.2.2.2.2.2.2.2.2.2.2.2.2.2.2.2.2.2.2.2.2.2.2.2.2.2.1 p15 (by decide)), (z_rg_fr hLM.2.2.2.2.2.2.2.2.2.2.2.2.2.2.2.2.2.2.2.2.2.2.2.2.2.2.2.1 p15 (by decide)), (z_rg_fr hLM.2.2.2.2.2.2.2.2.2.2.2.2.2.2.2.2.2.2.2.2.2.2.2.2.2.2.2.2.1 p15 (by decide)), (by unfold z_iro; rw [p15 0 13 (by decide), p15 0 14 (by decide), p15 0 15 (by decide)]; exact hLM.2.2.2.2.2.2.2.2.2.2.2.2.2.2.2.2.2.2.2.2.2.2.2.2.2.2.2.2.2)⟩
  have hap := fun i j hi hj e => hapn j i hj hi (Eq.symm e)
  refine lv_topi (fun x17 ex17 => ?_)
  refine lv_pop hx hb dL_law_340 rfl ?_
  refine lv_goto (tgt := 1508) hx hb dL_law_341 (by decide) ?_
  have hEQ9 : z_EQ I3 I12 := ⟨(by rw [p7 0 0 (by decide), p15 0 0 (by decide)]; exact htd.1), (by rw [p7 1 5 (by decide), p15 0 1 (by decide)]; exact htd.2.1), (by rw [p7 60 9 (by decide), p15 0 83 (by decide)]; exact htd.2.2)⟩
  refine W.widen (k := cells + 8) (n := slots + 2006) (by omega) (by omega) ?_
  exact kk c ad I3 I12 J13 _ _ _ hLXI3 hLMI12 hEQ9 hWX hWM hap hS (lv_sub hl [0, 1, 2, 3] rfl)
set_option maxHeartbeats 8000000 in
set_option maxRecDepth 100000 in
theorem lc_4 {p : Program} {e : Env} {s : State} {m : MethodId} {below : List Frame} {meth : Method} {c0 : Code} {b L : Nat} {xs : Nat → Int32} (l : Launch) {G : z_G} {A : Nat → Prop} {adK adV : Nat → Nat} (hK : z_K G s) (hA : ∀ q : Nat, s.heap.size ≤ q → A q) (hAi : ∀ q : Nat, A q → s.heap.size ≤ q) (hSt : z_St A s s.heap) (hKn : z_Cq adK adV A s s.heap) (hL : L ≤ 3584) (C0 : lw_At p s m meth c0 b L xs) {c : z_C} {ad adM : Nat → Nat} {Ix Im : z_I} {Jm : z_J} (hLX : z_LX c Ix) (hLM : z_LM Im) (htd : z_EQ Ix Im) {H : Heap} {locs : List Loc} {ls : Array Slot} (hWX : z_W G A (shC c, ad, Ix, JX, PC c ad) H) (hWM : z_W G A (shM, adM, Im, Jm, PM adM) H) (hap : ∀ i j, shC c i ≠ none → shM j ≠ none → ad i ≠ adM j) (hS : va_S A s.heap H locs) {i : Int32} (hi0 : 0 ≤ i.toInt) (hiL : i.toInt + 7 ≤ (L : Int)) (hl : lv_has ls 4 [(3, .int i), (2, .ref (adM 0)), (1, .ref (ad 0)), (0, .ref b)]) {cells slots : Nat} (hce : cells + 8 ≤ 600000) (hsl : slots + 2006 ≤ 7302250) (kk : ∀ (c : z_C) (ad : Nat → Nat) (Ix Im : z_I) (Jm : z_J) (H : Heap) (locs : List Loc) (ls : Array Slot), z_LX c Ix → z_LM Im → z_EQ Ix Im → z_W G A (shC c, ad, Ix, JX, PC c ad) H → z_W G A (shM, adM, Im, Jm, PM adM) H → (∀ i j, shC c i ≠ none → shM j ≠ none → ad i ≠ adM j) → va_S A s.heap H locs → lv_has ls 4 [(3, .int i), (2, .ref (adM 0)), (1, .ref (ad 0)), (0, .ref b)] → W p l e room_1 s m #[Value.ref b] below meth c0 H locs (cells + 8) (slots + 2006) (lw_Z below #[Value.ref b] s) (F0 m 1508 ls [])) : W p l e room_1 s m #[Value.ref b] below meth c0 H locs (cells) (slots) (lw_Z below #[Value.ref b] s) (F0 m 344 ls []) := by
  obtain ⟨hx, hb, hr, hml, hown, hts0, hX, hbl, hlocks, hgv⟩ := id C0
  have hown : s.vm.findClass RL = some m.cls := hown
  have hts : ∀ w ∈ wsL_law, w.before #[Value.ref b] s = true := fun w hw => hts0 w (wsL_law_in w hw)
  have hbA : ¬ A b := fun h => absurd (hAi b h) (Nat.not_le.mpr hbl)
  have hLi : (L : Int) ≤ 3584 := by omega
  refine lv_aload_n hx hb dL_law_344 rfl (lv_at hl 2 rfl) ?_
  refine lv_aload_n hx hb dL_law_345 rfl (lv_at hl 3 rfl) ?_
  refine lv_iload_n hx hb dL_law_346 rfl (lv_at hl 0 rfl) ?_
  refine lv_iconst (v := 1) hx hb dL_law_347 (by decide) ?_
  refine lv_iadd hx hb dL_law_348 ?_
  refine lv_topi (fun x1 ex1 => ?_)
  have tx1 : x1.toInt = i.toInt + 1 := z_tadd ex1 rfl z_l1 (by omega) (by omega)
  refine va_sld hx hb hX hbl hbA hS (z_ix rfl (by omega) (by omega)) dL_law_349 ?_
  refine lv_topi (fun x2 ex2 => ?_)
  refine lv_aload_n hx hb dL_law_350 rfl (lv_at hl 3 rfl) ?_
  refine lv_iload_n hx hb dL_law_351 rfl (lv_at hl 0 rfl) ?_
  refine lv_iconst (v := 2) hx hb dL_law_352 (by decide) ?_
  refine lv_iadd hx hb dL_law_353 ?_
  refine lv_topi (fun x3 ex3 => ?_)
  have tx3 : x3.toInt = i.toInt + 2 := z_tadd ex3 rfl z_l2 (by omega) (by omega)
  refine va_sld hx hb hX hbl hbA hS (z_ix rfl (by omega) (by omega)) dL_law_354 ?_
  refine lv_topi (fun x4 ex4 => ?_)
  refine lv_aload_n hx hb dL_law_355 rfl (lv_at hl 3 rfl) ?_
  refine lv_iload_n hx hb dL_law_356 rfl (lv_at hl 0 rfl) ?_
  refine lv_iconst (v := 3) hx hb dL_law_357 (by decide) ?_
  refine lv_iadd hx hb dL_law_358 ?_
  refine lv_topi (fun x5 ex5 => ?_)
  have tx5 : x5.toInt = i.toInt + 3 := z_tadd ex5 rfl z_l3 (by omega) (by omega)
  refine va_sld hx hb hX hbl hbA hS (z_ix rfl (by omega) (by omega)) dL_law_359 ?_
  refine lv_topi (fun x6 ex6 => ?_)
  refine z_ciD hWX hWM hap hS hA (va_runV (As := [.int x2, .int x4, .int x6]) (rest := []) ⟨hx, hb, hml, hown, hts0⟩ (sx_X11_classOf l G ad c Ix hLX.1 x2 x4 x6 hLX.2.2.2.2.2.2.2.2.2.1 hLX.2.2.2.2.2.2.2.2.2.2.1 _) (cwV 3 hts0 gV_X11_classOf rfl rfl rfl (by decide +kernel) ⟨(Nat.le_of_ble_eq_true rfl), (Nat.le_of_ble_eq_true rfl)⟩) (z_preV (i := 0) hK hWX rfl rfl) rfl rfl hl.1 rfl (lv_room (Nat.le_of_ble_eq_true rfl)) dL_law_360 ⟨(by show cells + 0 ≤ 600000; omega), (by show slots + 0 ≤ 7302250; omega)⟩) (fun r u1 H locs hp hWX hWM hap hS => ?_)
  subst hp
  refine lv_topi (fun x7 ex7 => ?_)
  refine lv_pop hx hb dL_law_363 rfl ?_
  refine lv_aload_n hx hb dL_law_364 rfl (lv_at hl 1 rfl) ?_
  refine lv_aload_n hx hb dL_law_365 rfl (lv_at hl 3 rfl) ?_
  refine lv_iload_n hx hb dL_law_366 rfl (lv_at hl 0 rfl) ?_
  refine lv_iconst (v := 1) hx hb dL_law_367 (by decide) ?_
  refine lv_iadd hx hb dL_law_368 ?_
  refine lv_topi (fun x8 ex8 => ?_)
  have tx8 : x8.toInt = i.toInt + 1 := z_tadd ex8 rfl z_l1 (by omega) (by omega)
  refine va_sld hx hb hX hbl hbA hS (z_ix rfl (by omega) (by omega)) dL_law_369 ?_
  refine lv_topi (fun x9 ex9 => ?_)
  refine lv_aload_n hx hb dL_law_370 rfl (lv_at hl 3 rfl) ?_
  refine lv_iload_n hx hb dL_law_371 rfl (lv_at hl 0 rfl) ?_
  refine lv_iconst (v := 2) hx hb dL_law_372 (by decide) ?_
  refine lv_iadd hx hb dL_law_373 ?_
  refine lv_topi (fun x10 ex10 => ?_)
  have tx10 : x10.toInt = i.toInt + 2 := z_tadd ex10 rfl z_l2 (by omega) (by omega)
  refine va_sld hx hb hX hbl hbA hS (z_ix rfl (by omega) (by omega)) dL_law_374 ?_
  refine lv_topi (fun x11 ex11 => ?_)
  refine lv_aload_n hx hb dL_law_375 rfl (lv_at hl 3 rfl) ?_
  refine lv_iload_n hx hb dL_law_376 rfl (lv_at hl 0 rfl) ?_
  refine lv_iconst (v := 3) hx hb dL_law_377 (by decide) ?_
  refine lv_iadd hx hb dL_law_378 ?_
  refine lv_topi (fun x12 ex12 => ?_)
  have tx12 : x12.toInt = i.toInt + 3 := z_tadd ex12 rfl z_l3 (by omega) (by omega)
  refine va_sld hx hb hX hbl hbA hS (z_ix rfl (by omega) (by omega)) dL_law_379 ?_
  refine lv_topi (fun x13 ex13 => ?_)
  refine z_ciD hWM hWX (fun i j hi hj e => hap j i hj hi e.symm) hS hA (va_runV (As := [.int x9, .int x11, .int x13]) (rest := []) ⟨hx, hb, hml, hown, hts0⟩ (sx_X12_classOf l G adM Im Jm hLM.1 x9 x11 x13 _) (cwV 3 hts0 gV_X12_classOf rfl rfl rfl (by decide +kernel) ⟨(Nat.le_of_ble_eq_true rfl), (Nat.le_of_ble_eq_true rfl)⟩) (z_preV (i := 0) hK hWM rfl rfl) rfl rfl hl.1 rfl (lv_room (Nat.le_of_ble_eq_true rfl)) dL_law_380 ⟨(by show cells + 0 + 0 ≤ 600000; omega), (by show slots + 0 + 0 ≤ 7302250; omega)⟩) (fun r u1 H locs hp hWM hWX hapn hS => ?_)
  subst hp
  have hap := fun i j hi hj e => hapn j i hj hi (Eq.symm e)
  refine lv_topi (fun x14 ex14 => ?_)
  refine lv_pop hx hb dL_law_383 rfl ?_
  refine lv_goto (tgt := 1508) hx hb dL_law_384 (by decide) ?_
  have hEQ9 : z_EQ Ix Im := ⟨htd.1, htd.2.1, htd.2.2⟩
  refine W.widen (k := cells + 8) (n := slots + 2006) (by omega) (by omega) ?_
  exact kk c ad Ix Im Jm _ _ _ hLX hLM hEQ9 hWX hWM hap hS (lv_sub hl [0, 1, 2, 3] rfl)
set_option maxHeartbeats 8000000 in
set_option maxRecDepth 100000 in
theorem lc_5 {p : Program} {e : Env} {s : State} {m : MethodId} {below : List Frame} {meth : Method} {c0 : Code} {b L : Nat} {xs : Nat → Int32} (l : Launch) {G : z_G} {A : Nat → Prop} {adK adV : Nat → Nat} (hK : z_K G s) (hA : ∀ q : Nat, s.heap.size ≤ q → A q) (hAi : ∀ q : Nat, A q → s.heap.size ≤ q) (hSt : z_St A s s.heap) (hKn : z_Cq adK adV A s s.heap) (hL : L ≤ 3584) (C0 : lw_At p s m meth c0 b L xs) {c : z_C} {ad adM : Nat → Nat} {Ix Im : z_I} {Jm : z_J} (hLX : z_LX c Ix) (hLM : z_LM Im) (htd : z_EQ Ix Im) {H : Heap} {locs : List Loc} {ls : Array Slot} (hWX : z_W G A (shC c, ad, Ix, JX, PC c ad) H) (hWM : z_W G A (shM, adM, Im, Jm, PM adM) H) (hap : ∀ i j, shC c i ≠ none → shM j ≠ none → ad i ≠ adM j) (hS : va_S A s.heap H locs) {i : Int32} (hi0 : 0 ≤ i.toInt) (hiL : i.toInt + 7 ≤ (L : Int)) (hl : lv_has ls 4 [(3, .int i), (2, .ref (adM 0)), (1, .ref (ad 0)), (0, .ref b)]) {cells slots : Nat} (hce : cells + 8 ≤ 600000) (hsl : slots + 2006 ≤ 7302250) (kk : ∀ (c : z_C) (ad : Nat → Nat) (Ix Im : z_I) (Jm : z_J) (H : Heap) (locs : List Loc) (ls : Array Slot), z_LX c Ix → z_LM Im → z_EQ Ix Im → z_W G A (shC c, ad, Ix, JX, PC c ad) H → z_W G A (shM, adM, Im, Jm, PM adM) H → (∀ i j, shC c i ≠ none → shM j ≠ none → ad i ≠ adM j) → va_S A s.heap H locs → lv_has ls 4 [(3, .int i), (2, .ref (adM 0)), (1, .ref (ad 0)), (0, .ref b)] → W p l e room_1 s m #[Value.ref b] below meth c0 H locs (cells + 8) (slots + 2006) (lw_Z below #[Value.ref b] s) (F0 m 1508 ls [])) : W p l e room_1 s m #[Value.ref b] below meth c0 H locs (cells) (slots) (lw_Z below #[Value.ref b] s) (F0 m 387 ls []) := by
  obtain ⟨hx, hb, hr, hml, hown, hts0, hX, hbl, hlocks, hgv⟩ := id C0
  have hown : s.vm.findClass RL = some m.cls := hown
  have hts : ∀ w ∈ wsL_law, w.before #[Value.ref b] s = true := fun w hw => hts0 w (wsL_law_in w hw)
  have hbA : ¬ A b := fun h => absurd (hAi b h) (Nat.not_le.mpr hbl)
  have hLi : (L : Int) ≤ 3584 := by omega
  refine lv_aload_n hx hb dL_law_387 rfl (lv_at hl 2 rfl) ?_
  refine lv_aload_n hx hb dL_law_388 rfl (lv_at hl 3 rfl) ?_
  refine lv_iload_n hx hb dL_law_389 rfl (lv_at hl 0 rfl) ?_
  refine lv_iconst (v := 1) hx hb dL_law_390 (by decide) ?_
  refine lv_iadd hx hb dL_law_391 ?_
  refine lv_topi (fun x1 ex1 => ?_)
  have tx1 : x1.toInt = i.toInt + 1 := z_tadd ex1 rfl z_l1 (by omega) (by omega)
  refine va_sld hx hb hX hbl hbA hS (z_ix rfl (by omega) (by omega)) dL_law_392 ?_
  refine lv_topi (fun x2 ex2 => ?_)
  refine lv_aload_n hx hb dL_law_393 rfl (lv_at hl 3 rfl) ?_
  refine lv_iload_n hx hb dL_law_394 rfl (lv_at hl 0 rfl) ?_
  refine lv_iconst (v := 2) hx hb dL_law_395 (by decide) ?_
  refine lv_iadd hx hb dL_law_396 ?_
  refine lv_topi (fun x3 ex3 => ?_)
  have tx3 : x3.toInt = i.toInt + 2 := z_tadd ex3 rfl z_l2 (by omega) (by omega)
  refine va_sld hx hb hX hbl hbA hS (z_ix rfl (by omega) (by omega)) dL_law_397 ?_
  refine lv_topi (fun x4 ex4 => ?_)
  refine lv_aload_n hx hb dL_law_398 rfl (lv_at hl 3 rfl) ?_
  refine lv_iload_n hx hb dL_law_399 rfl (lv_at hl 0 rfl) ?_
  refine lv_iconst (v := 3) hx hb dL_law_400 (by decide) ?_
  refine lv_iadd hx hb dL_law_401 ?_
  refine lv_topi (fun x5 ex5 => ?_)
  have tx5 : x5.toInt = i.toInt + 3 := z_tadd ex5 rfl z_l3 (by omega) (by omega)
  refine va_sld hx hb hX hbl hbA hS (z_ix rfl (by omega) (by omega)) dL_law_402 ?_
  refine lv_topi (fun x6 ex6 => ?_)
  refine lv_aload_n hx hb dL_law_403 rfl (lv_at hl 3 rfl) ?_
  refine lv_iload_n hx hb dL_law_404 rfl (lv_at hl 0 rfl) ?_
  refine lv_iconst (v := 4) hx hb dL_law_405 (by decide) ?_
  refine lv_iadd hx hb dL_law_406 ?_
  refine lv_topi (fun x7 ex7 => ?_)
  have tx7 : x7.toInt = i.toInt + 4 := z_tadd ex7 rfl z_l4 (by omega) (by omega)
  refine va_sld hx hb hX hbl hbA hS (z_ix rfl (by omega) (by omega)) dL_law_407 ?_
  refine lv_topi (fun x8 ex8 => ?_)
  refine lv_aload_n hx hb dL_law_408 rfl (lv_at hl 3 rfl) ?_
  refine lv_iload_n hx hb dL_law_409 rfl (lv_at hl 0 rfl) ?_
  refine lv_iconst (v := 5) hx hb dL_law_410 (by decide) ?_
  refine lv_iadd hx hb dL_law_411 ?_
  refine lv_topi (fun x9 ex9 => ?_)
  have tx9 : x9.toInt = i.toInt + 5 := z_tadd ex9 rfl z_l5 (by omega) (by omega)
  refine va_sld hx hb hX hbl hbA hS (z_ix rfl (by omega) (by omega)) dL_law_412 ?_
  refine lv_topi (fun x10 ex10 => ?_)
  refine z_ciD hWX hWM hap hS hA (va_runV (As := [.int x2, .int x4, .int x6, .int x8, .int x10]) (rest := []) ⟨hx, hb, hml, hown, hts0⟩ (sx_X11_feed l G ad c Ix hLX.2.1 x2 x4 x6 x8 x10 _) (cwV 5 hts0 gV_X11_feed rfl rfl rfl (by decide +kernel) ⟨(Nat.le_of_ble_eq_true rfl), (Nat.le_of_ble_eq_true rfl)⟩) (z_preV (i := 0) hK hWX rfl rfl) rfl rfl hl.1 rfl (lv_room (Nat.le_of_ble_eq_true rfl)) dL_law_413 ⟨(by show cells + 0 ≤ 600000; omega), (by show slots + 0 ≤ 7302250; omega)⟩) (fun r u1 H locs hp hWX hWM hap hS => ?_)
  obtain ⟨I11, rfl, p13, p14⟩ := hp
  have hLXI11 : z_LX c I11 := ⟨⟨(by show 0 ≤ (I11 1 5).toInt ∧ (I11 1 5).toInt ≤ 30; rw [p14 1 5 (by decide)]; exact hLX.1.1), (by show 0 ≤ (I11 1 11).toInt ∧ (I11 1 11).toInt ≤ 200; rw [p14 1 11 (by decide)]; exact hLX.1.2)⟩, p13, (by show 0 ≤ (I11 21 2).toInt ∧ (I11 21 2).toInt ≤ 12; rw [p14 21 2 (by decide)]; exact hLX.2.2.1), (by show 0 ≤ (I11 26 4).toInt ∧ (I11 26 4).toInt ≤ 512; rw [p14 26 4 (by decide)]; exact hLX.2.2.2.1), (by show 0 ≤ (I11 30 8).toInt ∧ (I11 30 8).toInt ≤ 300; rw [p14 30 8 (by decide)]; exact hLX.2.2.2.2.1), (by show 0 ≤ (I11 41 10).toInt ∧ (I11 41 10).toInt ≤ 4; rw [p14 41 10 (by decide)]; exact hLX.2.2.2.2.2.1), ⟨(by show 0 ≤ (I11 60 9).toInt ∧ (I11 60 9).toInt ≤ 60; rw [p14 60 9 (by decide)]; exact hLX.2.2.2.2.2.2.1.1), (by show 0 ≤ (I11 60 12).toInt ∧ (I11 60 12).toInt ≤ 12; rw [p14 60 12 (by decide)]; exact hLX.2.2.2.2.2.2.1.2)⟩, (by show 0 ≤ (I11 72 2).toInt ∧ (I11 72 2).toInt ≤ 30; rw [p14 72 2 (by decide)]; exact hLX.2.2.2.2.2.2.2.1), ⟨(by show 0 ≤ (I11 0 0).toInt ∧ (I11 0 0).toInt ≤ 719; rw [p14 0 0 (by decide)]; exact hLX.2.2.2.2.2.2.2.2.1.1), (by show 0 ≤ (I11 0 8).toInt ∧ (I11 0 8).toInt ≤ 10; rw [p14 0 8 (by decide)]; exact hLX.2.2.2.2.2.2.2.2.1.2)⟩, hLX.2.2.2.2.2.2.2.2.2.1, hLX.2.2.2.2.2.2.2.2.2.2.1, (z_iS_fr hLX.2.2.2.2.2.2.2.2.2.2.2.1 p14 (by decide)), (by rw [p14 0 8 (by decide)]; exact hLX.2.2.2.2.2.2.2.2.2.2.2.2.1), (by rw [p14 21 2 (by decide)]; exact hLX.2.2.2.2.2.2.2.2.2.2.2.2.2)⟩
  refine lv_topi (fun x15 ex15 => ?_)
  refine lv_pop hx hb dL_law_416 rfl ?_
  refine lv_aload_n hx hb dL_law_417 rfl (lv_at hl 1 rfl) ?_
  refine lv_aload_n hx hb dL_law_418 rfl (lv_at hl 3 rfl) ?_
  refine lv_iload_n hx hb dL_law_419 rfl (lv_at hl 0 rfl) ?_
  refine lv_iconst (v := 1) hx hb dL_law_420 (by decide) ?_
  refine lv_iadd hx hb dL_law_421 ?_
  refine lv_topi (fun x16 ex16 => ?_)
  have tx16 : x16.toInt = i.toInt + 1 := z_tadd ex16 rfl z_l1 (by omega) (by omega)
  refine va_sld hx hb hX hbl hbA hS (z_ix rfl (by omega) (by omega)) dL_law_422 ?_
  refine lv_topi (fun x17 ex17 => ?_)
  refine lv_aload_n hx hb dL_law_423 rfl (lv_at hl 3 rfl) ?_
  refine lv_iload_n hx hb dL_law_424 rfl (lv_at hl 0 rfl) ?_
  refine lv_iconst (v := 2) hx hb dL_law_425 (by decide) ?_
  refine lv_iadd hx hb dL_law_426 ?_
  refine lv_topi (fun x18 ex18 => ?_)
  have tx18 : x18.toInt = i.toInt + 2 := z_tadd ex18 rfl z_l2 (by omega) (by omega)
  refine va_sld hx hb hX hbl hbA hS (z_ix rfl (by omega) (by omega)) dL_law_427 ?_
  refine lv_topi (fun x19 ex19 => ?_)
  refine lv_aload_n hx hb dL_law_428 rfl (lv_at hl 3 rfl) ?_
  refine lv_iload_n hx hb dL_law_429 rfl (lv_at hl 0 rfl) ?_
  refine lv_iconst (v := 3) hx hb dL_law_430 (by decide) ?_
  refine lv_iadd hx hb dL_law_431 ?_
  refine lv_topi (fun x20 ex20 => ?_)
  have tx20 : x20.toInt = i.toInt + 3 := z_tadd ex20 rfl z_l3 (by omega) (by omega)
  refine va_sld hx hb hX hbl hbA hS (z_ix rfl (by omega) (by omega)) dL_law_432 ?_
  refine lv_topi (fun x21 ex21 => ?_)
  refine lv_aload_n hx hb dL_law_433 rfl (lv_at hl 3 rfl) ?_
  refine lv_iload_n hx hb dL_law_434 rfl (lv_at hl 0 rfl) ?_
  refine lv_iconst (v := 4) hx hb dL_law_435 (by decide) ?_
  refine lv_iadd hx hb dL_law_436 ?_
  refine lv_topi (fun x22 ex22 => ?_)
  have tx22 : x22.toInt = i.toInt + 4 := z_tadd ex22 rfl z_l4 (by omega) (by omega)
  refine va_sld hx hb hX hbl hbA hS (z_ix rfl (by omega) (by omega)) dL_law_437 ?_
  refine lv_topi (fun x23 ex23 => ?_)
  refine lv_aload_n hx hb dL_law_438 rfl (lv_at hl 3 rfl) ?_
  refine lv_iload_n hx hb dL_law_439 rfl (lv_at hl 0 rfl) ?_
  refine lv_iconst (v := 5) hx hb dL_law_440 (by decide) ?_
  refine lv_iadd hx hb dL_law_441 ?_
  refine lv_topi (fun x24 ex24 => ?_)
  have tx24 : x24.toInt = i.toInt + 5 := z_tadd ex24 rfl z_l5 (by omega) (by omega)
  refine va_sld hx hb hX hbl hbA hS (z_ix rfl (by omega) (by omega)) dL_law_442 ?_
  refine lv_topi (fun x25 ex25 => ?_)
  refine z_ciD hWM hWX (fun i j hi hj e => hap j i hj hi e.symm) hS hA (va_runV (As := [.int x17, .int x19, .int x21, .int x23, .int x25]) (rest := []) ⟨hx, hb, hml, hown, hts0⟩ (sx_X12_feed l G adM Im Jm hLM.2.2.2.1 x17 x19 x21 x23 x25 _) (cwV 5 hts0 gV_X12_feed rfl rfl rfl (by decide +kernel) ⟨(Nat.le_of_ble_eq_true rfl), (Nat.le_of_ble_eq_true rfl)⟩) (z_preV (i := 0) hK hWM rfl rfl) rfl rfl hl.1 rfl (lv_room (Nat.le_of_ble_eq_true rfl)) dL_law_443 ⟨(by show cells + 0 + 0 ≤ 600000; omega), (by show slots + 0 + 0 ≤ 7302250; omega)⟩) (fun r u1 H locs hp hWM hWX hapn hS => ?_)
  obtain ⟨I26, J27, rfl, p28, p29⟩ := hp
  have hLMI26 : z_LM I26 := ⟨⟨(by show 0 ≤ (I26 0 0).toInt ∧ (I26 0 0).toInt ≤ 719; rw [p29 0 0 (by decide)]; exact hLM.1.1), (by show 0 ≤ (I26 0 1).toInt ∧ (I26 0 1).toInt ≤ 30; rw [p29 0 1 (by decide)]; exact hLM.1.2.1), (by show 0 ≤ (I26 0 2).toInt ∧ (I26 0 2).toInt ≤ 200; rw [p29 0 2 (by decide)]; exact hLM.1.2.2)⟩, ⟨(by show 0 ≤ (I26 0 13).toInt ∧ (I26 0 13).toInt ≤ 12; rw [p29 0 13 (by decide)]; exact hLM.2.1.1), (by show 0 ≤ (I26 0 14).toInt ∧ (I26 0 14).toInt ≤ 288; rw [p29 0 14 (by decide)]; exact hLM.2.1.2)⟩, (by show 0 ≤ (I26 0 15).toInt ∧ (I26 0 15).toInt ≤ 6100; rw [p29 0 15 (by decide)]; exact hLM.2.2.1), p28, ⟨(by show 0 ≤ (I26 0 36).toInt ∧ (I26 0 36).toInt ≤ 4; rw [p29 0 36 (by decide)]; exact hLM.2.2.2.2.1.1), (by show 0 ≤ (I26 0 42).toInt ∧ (I26 0 42).toInt ≤ 1; rw [p29 0 42 (by decide)]; exact hLM.2.2.2.2.1.2)⟩, ⟨(by show 0 ≤ (I26 0 47).toInt ∧ (I26 0 47).toInt ≤ 119; rw [p29 0 47 (by decide)]; exact hLM.2.2.2.2.2.1.1), (by show 0 ≤ (I26 0 39).toInt ∧ (I26 0 39).toInt ≤ 100; rw [p29 0 39 (by decide)]; exact hLM.2.2.2.2.2.1.2)⟩, (by show 0 ≤ (I26 0 40).toInt ∧ (I26 0 40).toInt ≤ 6199; rw [p29 0 40 (by decide)]; exact hLM.2.2.2.2.2.2.1), ⟨(by show 0 ≤ (I26 0 54).toInt ∧ (I26 0 54).toInt ≤ 10; rw [p29 0 54 (by decide)]; exact hLM.2.2.2.2.2.2.2.1.1), (by show 0 ≤ (I26 0 55).toInt ∧ (I26 0 55).toInt ≤ 300; rw [p29 0 55 (by decide)]; exact hLM.2.2.2.2.2.2.2.1.2)⟩, (by show 0 ≤ (I26 0 75).toInt ∧ (I26 0 75).toInt ≤ 4; rw [p29 0 75 (by decide)]; exact hLM.2.2.2.2.2.2.2.2.1), (by show 0 ≤ (I26 0 83).toInt ∧ (I26 0 83).toInt ≤ 60; rw [p29 0 83 (by decide)]; exact hLM.2.2.2.2.2.2.2.2.2.1), (z_rg_fr hLM.2.2.2.2.2.2.2.2.2.2.1 p29 (by decide)), (z_rg_fr hLM.2.2.2.2.2.2.2.2.2.2.2.1 p29 (by decide)), (z_rg_fr hLM.2.2.2.2.2.2.2.2.2.2.2.2.1 p29 (by decide)), (z_rg_fr hLM.2.2.2.2.2.2.2.2.2.2.2.2.2.1 p29 (by decide)), (z_rg_fr hLM.2.2.2.2.2.2.2.2.2.2.2.2.2.2.1 p29 (by decide)), (z_rg_fr hLM.2.2.2.2.2.2.2.2.2.2.2.2.2.2.2.1 p29 (by decide)), (z_rg_fr hLM.2.2.2.2.2.2.2.2.2.2.2.2.2.2.2.2.1 p29 (by decide)), (z_rg_fr hLM.2.2.2.2.2.2.2.2.2.2.2.2.2.2.2.2.2.1 p29 (by decide)), (z_rg_fr hLM.2.2.2.2.2.2.2.2.2.2.2.2.2.2.2.2.2.2.1 p29 (by decide)), (z_rg_fr hLM.2.2.2.2.2.2.2.2.2.2.2.2.2.2.2.2.2.2.2.1 p29 (by decide)), (z_Nd_fr hLM.2.2.2.2.2.2.2.2.2.2.2.2.2.2.2.2.2.2.2.2.1 p29 (by decide)), (z_Ex_fr hLM.2.2.2.2.2.2.2.2.2.2.2.2.2.2.2.2.2.2.2.2.2.1 p29 (by decide)), (z_rg_fr hLM.2.2.2.2.2.2.2.2.2.2.2.2.2.2.2.2.2.2.2.2.2.2.1 p29 (by decide)), (z_rg_fr hLM.2.2.2.2.2.2.2.2.2.2.2.2.2.2.2.2.2.2.2.2.2.2.2.1 p29 (by decide)), (z_rg_fr hLM.2.2.2.2.2.2.2.2.2.2.2.2.2.2.2.2.2.2.2.2.2.2.2.2.1 p29 (by decide)), (z_rg_fr hLM.2.2.2.2.2.2.2.2.2.2.2.2.2.2.2.2.2.2.2.2.2.2.2.2.2.1 p29 (by decide)), (z_rg_fr hLM.2.2.2.2.2.2.2.2.2.2.2.2.2.2.2.2.2.2.2.2.2.2.2.2.2.2.1 p29 (by decide)), (z_rg_fr hLM.2.2.2.2.2.2.2.2.2.2.2.2.2.2.2.2.2.2.2.2.2.2.2.2.2.2.2.1 p29 (by decide)), (z_rg_fr hLM.2.2.2.2.2.2.2.2.2.2.2.2.2.2.2.2.2.2.2.2.2.2.2.2.2.2.2.2.1 p29 (by decide)), (by unfold z_iro; rw [p29 0 13 (by decide), p29 0 14 (by decide), p29 0 15 (by decide)]; exact hLM.2.2.2.2.2.2.2.2.2.2.2.2.2.2.2.2.2.2.2.2.2.2.2.2.2.2.2.2.2)⟩
  have hap := fun i j hi hj e => hapn j i hj hi (Eq.symm e)
  refine lv_topi (fun x30 ex30 => ?_)
  refine lv_pop hx hb dL_law_446 rfl ?_
  refine lv_goto (tgt := 1508) hx hb dL_law_447 (by decide) ?_
  have hEQ9 : z_EQ I11 I26 := ⟨(by rw [p14 0 0 (by decide), p29 0 0 (by decide)]; exact htd.1), (by rw [p14 1 5 (by decide), p29 0 1 (by decide)]; exact htd.2.1), (by rw [p14 60 9 (by decide), p29 0 83 (by decide)]; exact htd.2.2)⟩
  refine W.widen (k := cells + 8) (n := slots + 2006) (by omega) (by omega) ?_
  exact kk c ad I11 I26 J27 _ _ _ hLXI11 hLMI26 hEQ9 hWX hWM hap hS (lv_sub hl [0, 1, 2, 3] rfl)
set_option maxHeartbeats 8000000 in
set_option maxRecDepth 100000 in
theorem lc_6 {p : Program} {e : Env} {s : State} {m : MethodId} {below : List Frame} {meth : Method} {c0 : Code} {b L : Nat} {xs : Nat → Int32} (l : Launch) {G : z_G} {A : Nat → Prop} {adK adV : Nat → Nat} (hK : z_K G s) (hA : ∀ q : Nat, s.heap.size ≤ q → A q) (hAi : ∀ q : Nat, A q → s.heap.size ≤ q) (hSt : z_St A s s.heap) (hKn : z_Cq adK adV A s s.heap) (hL : L ≤ 3584) (C0 : lw_At p s m meth c0 b L xs) {c : z_C} {ad adM : Nat → Nat} {Ix Im : z_I} {Jm : z_J} (hLX : z_LX c Ix) (hLM : z_LM Im) (htd : z_EQ Ix Im) {H : Heap} {locs : List Loc} {ls : Array Slot} (hWX : z_W G A (shC c, ad, Ix, JX, PC c ad) H) (hWM : z_W G A (shM, adM, Im, Jm, PM adM) H) (hap : ∀ i j, shC c i ≠ none → shM j ≠ none → ad i ≠ adM j) (hS : va_S A s.heap H locs) {i : Int32} (hi0 : 0 ≤ i.toInt) (hiL : i.toInt + 7 ≤ (L : Int)) (hl : lv_has ls 4 [(3, .int i), (2, .ref (adM 0)), (1, .ref (ad 0)), (0, .ref b)]) {cells slots : Nat} (hce : cells + 8 ≤ 600000) (hsl : slots + 2006 ≤ 7302250) (kk : ∀ (c : z_C) (ad : Nat → Nat) (Ix Im : z_I) (Jm : z_J) (H : Heap) (locs : List Loc) (ls : Array Slot), z_LX c Ix → z_LM Im → z_EQ Ix Im → z_W G A (shC c, ad, Ix, JX, PC c ad) H → z_W G A (shM, adM, Im, Jm, PM adM) H → (∀ i j, shC c i ≠ none → shM j ≠ none → ad i ≠ adM j) → va_S A s.heap H locs → lv_has ls 4 [(3, .int i), (2, .ref (adM 0)), (1, .ref (ad 0)), (0, .ref b)] → W p l e room_1 s m #[Value.ref b] below meth c0 H locs (cells + 8) (slots + 2006) (lw_Z below #[Value.ref b] s) (F0 m 1508 ls [])) : W p l e room_1 s m #[Value.ref b] below meth c0 H locs (cells) (slots) (lw_Z below #[Value.ref b] s) (F0 m 450 ls []) := by
  obtain ⟨hx, hb, hr, hml, hown, hts0, hX, hbl, hlocks, hgv⟩ := id C0
  have hown : s.vm.findClass RL = some m.cls := hown
  have hts : ∀ w ∈ wsL_law, w.before #[Value.ref b] s = true := fun w hw => hts0 w (wsL_law_in w hw)
  have hbA : ¬ A b := fun h => absurd (hAi b h) (Nat.not_le.mpr hbl)
  have hLi : (L : Int) ≤ 3584 := by omega
  refine lv_aload_n hx hb dL_law_450 rfl (lv_at hl 2 rfl) ?_
  refine lv_aload_n hx hb dL_law_451 rfl (lv_at hl 3 rfl) ?_
  refine lv_iload_n hx hb dL_law_452 rfl (lv_at hl 0 rfl) ?_
  refine lv_iconst (v := 1) hx hb dL_law_453 (by decide) ?_
  refine lv_iadd hx hb dL_law_454 ?_
  refine lv_topi (fun x1 ex1 => ?_)
  have tx1 : x1.toInt = i.toInt + 1 := z_tadd ex1 rfl z_l1 (by omega) (by omega)
  refine va_sld hx hb hX hbl hbA hS (z_ix rfl (by omega) (by omega)) dL_law_455 ?_
  refine lv_topi (fun x2 ex2 => ?_)
  refine lv_aload_n hx hb dL_law_456 rfl (lv_at hl 3 rfl) ?_
  refine lv_iload_n hx hb dL_law_457 rfl (lv_at hl 0 rfl) ?_
  refine lv_iconst (v := 2) hx hb dL_law_458 (by decide) ?_
  refine lv_iadd hx hb dL_law_459 ?_
  refine lv_topi (fun x3 ex3 => ?_)
  have tx3 : x3.toInt = i.toInt + 2 := z_tadd ex3 rfl z_l2 (by omega) (by omega)
  refine va_sld hx hb hX hbl hbA hS (z_ix rfl (by omega) (by omega)) dL_law_460 ?_
  refine lv_topi (fun x4 ex4 => ?_)
  refine z_ciD hWX hWM hap hS hA (va_runV (As := [.int x2, .int x4]) (rest := []) ⟨hx, hb, hml, hown, hts0⟩ (sx_X11_orders l G adK adV ad c Ix hLX.2.1 hLX.2.2.2.2.2.2.2.2.1 hLX.2.2.1 x2 x4 hLX.2.2.2.2.2.2.2.2.2.1 hLX.2.2.2.2.2.2.2.2.2.2.1 hLX.2.2.2.2.2.2.2.2.2.2.2.2.2 _) (cwV 2 hts0 gV_X11_orders rfl rfl rfl (by decide +kernel) ⟨(Nat.le_of_ble_eq_true rfl), (Nat.le_of_ble_eq_true rfl)⟩) (z_preVN (z_Cq.nice adK adV) (i := 0) hK hWX hS hA hKn rfl rfl) rfl rfl hl.1 rfl (lv_room (Nat.le_of_ble_eq_true rfl)) dL_law_461 ⟨(by show cells + 5 ≤ 600000; omega), (by show slots + 2006 ≤ 7302250; omega)⟩) (fun r u1 H locs hp hWX hWM hap hS => ?_)
  obtain ⟨c5, ad6, I7, rfl, hq⟩ := hp
  have hLXI7 := z_LX_X11_orders hLX hq
  have hadI7 : ad6 0 = ad 0 := z_ad_X11_orders hq
  have hl : lv_has ls 4 [(3, .int i), (2, .ref (adM 0)), (1, .ref (ad6 0)), (0, .ref b)] := by rw [hadI7]; exact hl
  refine lv_topi (fun x8 ex8 => ?_)
  refine lv_pop hx hb dL_law_464 rfl ?_
  refine lv_aload_n hx hb dL_law_465 rfl (lv_at hl 1 rfl) ?_
  refine lv_aload_n hx hb dL_law_466 rfl (lv_at hl 3 rfl) ?_
  refine lv_iload_n hx hb dL_law_467 rfl (lv_at hl 0 rfl) ?_
  refine lv_iconst (v := 1) hx hb dL_law_468 (by decide) ?_
  refine lv_iadd hx hb dL_law_469 ?_
  refine lv_topi (fun x9 ex9 => ?_)
  have tx9 : x9.toInt = i.toInt + 1 := z_tadd ex9 rfl z_l1 (by omega) (by omega)
  refine va_sld hx hb hX hbl hbA hS (z_ix rfl (by omega) (by omega)) dL_law_470 ?_
  refine lv_topi (fun x10 ex10 => ?_)
  refine lv_aload_n hx hb dL_law_471 rfl (lv_at hl 3 rfl) ?_
  refine lv_iload_n hx hb dL_law_472 rfl (lv_at hl 0 rfl) ?_
  refine lv_iconst (v := 2) hx hb dL_law_473 (by decide) ?_
  refine lv_iadd hx hb dL_law_474 ?_
  refine lv_topi (fun x11 ex11 => ?_)
  have tx11 : x11.toInt = i.toInt + 2 := z_tadd ex11 rfl z_l2 (by omega) (by omega)
  refine va_sld hx hb hX hbl hbA hS (z_ix rfl (by omega) (by omega)) dL_law_475 ?_
  refine lv_topi (fun x12 ex12 => ?_)
  refine z_ciD hWM hWX (fun i j hi hj e => hap j i hj hi e.symm) hS hA (va_runV (As := [.int x10, .int x12]) (rest := []) ⟨hx, hb, hml, hown, hts0⟩ (sx_X12_orders l G adM Im Jm hLM.1 hLM.2.1 hLM.2.2.2.1 hLM.2.2.2.2.1 hLM.2.2.2.2.2.1 hLM.2.2.2.2.2.2.1 hLM.2.2.1 hLM.2.2.2.2.2.2.2.2.2.2.2.2.2.2.2.2.2.2.2.2.1 hLM.2.2.2.2.2.2.2.2.2.2.2.2.2.2.2.1 hLM.2.2.2.2.2.2.2.2.2.2.2.2.2.2.2.2.1 hLM.2.2.2.2.2.2.2.2.2.2.2.2.2.2.2.2.2.1 hLM.2.2.2.2.2.2.2.2.2.2.2.2.2.2.2.2.2.2.1 hLM.2.2.2.2.2.2.2.2.2.2.2.2.2.2.2.2.2.2.2.1 hLM.2.2.2.2.2.2.2.2.2.2.2.2.2.2.2.2.2.2.2.2.2.1 hLM.2.2.2.2.2.2.2.2.2.2.2.2.2.2.2.2.2.2.2.2.2.2.2.2.2.2.2.2.2 x10 x12 _) (cwV 2 hts0 gV_X12_orders rfl rfl rfl (by decide +kernel) ⟨(Nat.le_of_ble_eq_true rfl), (Nat.le_of_ble_eq_true rfl)⟩) (z_preV (i := 0) hK hWM rfl rfl) rfl rfl hl.1 rfl (lv_room (Nat.le_of_ble_eq_true rfl)) dL_law_476 ⟨(by show cells + 5 + 0 ≤ 600000; omega), (by show slots + 2006 + 0 ≤ 7302250; omega)⟩) (fun r u1 H locs hp hWM hWX hapn hS => ?_)
  obtain ⟨I13, J14, rfl, p15, p16, p17, p18, p19, p20, p21, p22, p23, p24, p25, p26, p27, p28, p29, p30⟩ := hp
  have hLMI13 : z_LM I13 := ⟨p15, p16, p21, p17, p18, p19, p20, ⟨(by show 0 ≤ (I13 0 54).toInt ∧ (I13 0 54).toInt ≤ 10; rw [p30 0 54 (by decide)]; exact hLM.2.2.2.2.2.2.2.1.1), (by show 0 ≤ (I13 0 55).toInt ∧ (I13 0 55).toInt ≤ 300; rw [p30 0 55 (by decide)]; exact hLM.2.2.2.2.2.2.2.1.2)⟩, (by show 0 ≤ (I13 0 75).toInt ∧ (I13 0 75).toInt ≤ 4; rw [p30 0 75 (by decide)]; exact hLM.2.2.2.2.2.2.2.2.1), (by show 0 ≤ (I13 0 83).toInt ∧ (I13 0 83).toInt ≤ 60; rw [p30 0 83 (by decide)]; exact hLM.2.2.2.2.2.2.2.2.2.1), (z_rg_fr hLM.2.2.2.2.2.2.2.2.2.2.1 p30 (by decide)), (z_rg_fr hLM.2.2.2.2.2.2.2.2.2.2.2.1 p30 (by decide)), (z_rg_fr hLM.2.2.2.2.2.2.2.2.2.2.2.2.1 p30 (by decide)), (z_rg_fr hLM.2.2.2.2.2.2.2.2.2.2.2.2.2.1 p30 (by decide)), (z_rg_fr hLM.2.2.2.2.2.2.2.2.2.2.2.2.2.2.1 p30 (by decide)), p23, p24, p25, p26, p27, p22, p28, (z_rg_fr hLM.2.2.2.2.2.2.2.2.2.2.2.2.2.2.2.2.2.2.2.2.2.2.1 p30 (by decide)), (z_rg_fr hLM.2.2.2.2.2.2.2.2.2.2.2.2.2.2.2.2.2.2.2.2.2.2.2.1 p30 (by decide)), (z_rg_fr hLM.2.2.2.2.2.2.2.2.2.2.2.2.2.2.2.2.2.2.2.2.2.2.2.2.1 p30 (by decide)), (z_rg_fr hLM.2.2.2.2.2.2.2.2.2.2.2.2.2.2.2.2.2.2.2.2.2.2.2.2.2.1 p30 (by decide)), (z_rg_fr hLM.2.2.2.2.2.2.2.2.2.2.2.2.2.2.2.2.2.2.2.2.2.2.2.2.2.2.1 p30 (by decide)), (z_rg_fr hLM.2.2.2.2.2.2.2.2.2.2.2.2.2.2.2.2.2.2.2.2.2.2.2.2.2.2.2.1 p30 (by decide)), (z_rg_fr hLM.2.2.2.2.2.2.2.2.2.2.2.2.2.2.2.2.2.2.2.2.2.2.2.2.2.2.2.2.1 p30 (by decide)), p29⟩
  have hap := fun i j hi hj e => hapn j i hj hi (Eq.symm e)
  refine lv_topi (fun x31 ex31 => ?_)
  refine lv_pop hx hb dL_law_479 rfl ?_
  refine lv_goto (tgt := 1508) hx hb dL_law_480 (by decide) ?_
  have hEQ9 : z_EQ I7 I13 := ⟨(by rw [hq.2.2.2.2.2.2 0 0 (by decide) (by decide), p30 0 0 (by decide)]; exact htd.1), (by rw [hq.2.2.2.2.2.2 1 5 (by decide) (by decide), p30 0 1 (by decide)]; exact htd.2.1), (by rw [hq.2.2.2.2.2.2 60 9 (by decide) (by decide), p30 0 83 (by decide)]; exact htd.2.2)⟩
  refine W.widen (k := cells + 8) (n := slots + 2006) (by omega) (by omega) ?_
  exact kk c5 ad6 I7 I13 J14 _ _ _ hLXI7 hLMI13 hEQ9 hWX hWM hap hS (lv_sub hl [0, 1, 2, 3] rfl)
set_option maxHeartbeats 8000000 in
set_option maxRecDepth 100000 in
theorem lc_7 {p : Program} {e : Env} {s : State} {m : MethodId} {below : List Frame} {meth : Method} {c0 : Code} {b L : Nat} {xs : Nat → Int32} (l : Launch) {G : z_G} {A : Nat → Prop} {adK adV : Nat → Nat} (hK : z_K G s) (hA : ∀ q : Nat, s.heap.size ≤ q → A q) (hAi : ∀ q : Nat, A q → s.heap.size ≤ q) (hSt : z_St A s s.heap) (hKn : z_Cq adK adV A s s.heap) (hL : L ≤ 3584) (C0 : lw_At p s m meth c0 b L xs) {c : z_C} {ad adM : Nat → Nat} {Ix Im : z_I} {Jm : z_J} (hLX : z_LX c Ix) (hLM : z_LM Im) (htd : z_EQ Ix Im) {H : Heap} {locs : List Loc} {ls : Array Slot} (hWX : z_W G A (shC c, ad, Ix, JX, PC c ad) H) (hWM : z_W G A (shM, adM, Im, Jm, PM adM) H) (hap : ∀ i j, shC c i ≠ none → shM j ≠ none → ad i ≠ adM j) (hS : va_S A s.heap H locs) {i : Int32} (hi0 : 0 ≤ i.toInt) (hiL : i.toInt + 7 ≤ (L : Int)) (hl : lv_has ls 4 [(3, .int i), (2, .ref (adM 0)), (1, .ref (ad 0)), (0, .ref b)]) {cells slots : Nat} (hce : cells + 8 ≤ 600000) (hsl : slots + 2006 ≤ 7302250) (kk : ∀ (c : z_C) (ad : Nat → Nat) (Ix Im : z_I) (Jm : z_J) (H : Heap) (locs : List Loc) (ls : Array Slot), z_LX c Ix → z_LM Im → z_EQ Ix Im → z_W G A (shC c, ad, Ix, JX, PC c ad) H → z_W G A (shM, adM, Im, Jm, PM adM) H → (∀ i j, shC c i ≠ none → shM j ≠ none → ad i ≠ adM j) → va_S A s.heap H locs → lv_has ls 4 [(3, .int i), (2, .ref (adM 0)), (1, .ref (ad 0)), (0, .ref b)] → W p l e room_1 s m #[Value.ref b] below meth c0 H locs (cells + 8) (slots + 2006) (lw_Z below #[Value.ref b] s) (F0 m 1508 ls [])) : W p l e room_1 s m #[Value.ref b] below meth c0 H locs (cells) (slots) (lw_Z below #[Value.ref b] s) (F0 m 483 ls []) := by
  obtain ⟨hx, hb, hr, hml, hown, hts0, hX, hbl, hlocks, hgv⟩ := id C0
  have hown : s.vm.findClass RL = some m.cls := hown
  have hts : ∀ w ∈ wsL_law, w.before #[Value.ref b] s = true := fun w hw => hts0 w (wsL_law_in w hw)
  have hbA : ¬ A b := fun h => absurd (hAi b h) (Nat.not_le.mpr hbl)
  have hLi : (L : Int) ≤ 3584 := by omega
  refine lv_aload_n hx hb dL_law_483 rfl (lv_at hl 2 rfl) ?_
  refine z_ciD hWX hWM hap hS hA (va_runV (As := []) (rest := []) ⟨hx, hb, hml, hown, hts0⟩ (sx_X11_fault l G ad c Ix hLX.2.2.2.2.2.2.2.2.2.1 hLX.2.2.2.2.2.2.2.2.2.2.1 _) (cwV 0 hts0 gV_X11_fault rfl rfl rfl (by decide +kernel) ⟨(Nat.le_of_ble_eq_true rfl), (Nat.le_of_ble_eq_true rfl)⟩) (z_preV (i := 0) hK hWX rfl rfl) rfl rfl hl.1 rfl (lv_room (Nat.le_of_ble_eq_true rfl)) dL_law_484 ⟨(by show cells + 0 ≤ 600000; omega), (by show slots + 0 ≤ 7302250; omega)⟩) (fun r u1 H locs hp hWX hWM hap hS => ?_)
  subst hp
  refine lv_topi (fun x1 ex1 => ?_)
  refine lv_pop hx hb dL_law_487 rfl ?_
  refine lv_aload_n hx hb dL_law_488 rfl (lv_at hl 1 rfl) ?_
  refine z_ciD hWM hWX (fun i j hi hj e => hap j i hj hi e.symm) hS hA (va_runV (As := []) (rest := []) ⟨hx, hb, hml, hown, hts0⟩ (sx_X12_fault l G adM Im Jm _) (cwV 0 hts0 gV_X12_fault rfl rfl rfl (by decide +kernel) ⟨(Nat.le_of_ble_eq_true rfl), (Nat.le_of_ble_eq_true rfl)⟩) (z_preV (i := 0) hK hWM rfl rfl) rfl rfl hl.1 rfl (lv_room (Nat.le_of_ble_eq_true rfl)) dL_law_489 ⟨(by show cells + 0 + 0 ≤ 600000; omega), (by show slots + 0 + 0 ≤ 7302250; omega)⟩) (fun r u1 H locs hp hWM hWX hapn hS => ?_)
  subst hp
  have hap := fun i j hi hj e => hapn j i hj hi (Eq.symm e)
  refine lv_topi (fun x2 ex2 => ?_)
  refine lv_pop hx hb dL_law_492 rfl ?_
  refine lv_goto (tgt := 1508) hx hb dL_law_493 (by decide) ?_
  have hEQ9 : z_EQ Ix Im := ⟨htd.1, htd.2.1, htd.2.2⟩
  refine W.widen (k := cells + 8) (n := slots + 2006) (by omega) (by omega) ?_
  exact kk c ad Ix Im Jm _ _ _ hLX hLM hEQ9 hWX hWM hap hS (lv_sub hl [0, 1, 2, 3] rfl)
set_option maxHeartbeats 8000000 in
set_option maxRecDepth 100000 in
theorem lc_8 {p : Program} {e : Env} {s : State} {m : MethodId} {below : List Frame} {meth : Method} {c0 : Code} {b L : Nat} {xs : Nat → Int32} (l : Launch) {G : z_G} {A : Nat → Prop} {adK adV : Nat → Nat} (hK : z_K G s) (hA : ∀ q : Nat, s.heap.size ≤ q → A q) (hAi : ∀ q : Nat, A q → s.heap.size ≤ q) (hSt : z_St A s s.heap) (hKn : z_Cq adK adV A s s.heap) (hL : L ≤ 3584) (C0 : lw_At p s m meth c0 b L xs) {c : z_C} {ad adM : Nat → Nat} {Ix Im : z_I} {Jm : z_J} (hLX : z_LX c Ix) (hLM : z_LM Im) (htd : z_EQ Ix Im) {H : Heap} {locs : List Loc} {ls : Array Slot} (hWX : z_W G A (shC c, ad, Ix, JX, PC c ad) H) (hWM : z_W G A (shM, adM, Im, Jm, PM adM) H) (hap : ∀ i j, shC c i ≠ none → shM j ≠ none → ad i ≠ adM j) (hS : va_S A s.heap H locs) {i : Int32} (hi0 : 0 ≤ i.toInt) (hiL : i.toInt + 7 ≤ (L : Int)) (hl : lv_has ls 4 [(3, .int i), (2, .ref (adM 0)), (1, .ref (ad 0)), (0, .ref b)]) {cells slots : Nat} (hce : cells + 8 ≤ 600000) (hsl : slots + 2006 ≤ 7302250) (kk : ∀ (c : z_C) (ad : Nat → Nat) (Ix Im : z_I) (Jm : z_J) (H : Heap) (locs : List Loc) (ls : Array Slot), z_LX c Ix → z_LM Im → z_EQ Ix Im → z_W G A (shC c, ad, Ix, JX, PC c ad) H → z_W G A (shM, adM, Im, Jm, PM adM) H → (∀ i j, shC c i ≠ none → shM j ≠ none → ad i ≠ adM j) → va_S A s.heap H locs → lv_has ls 4 [(3, .int i), (2, .ref (adM 0)), (1, .ref (ad 0)), (0, .ref b)] → W p l e room_1 s m #[Value.ref b] below meth c0 H locs (cells + 8) (slots + 2006) (lw_Z below #[Value.ref b] s) (F0 m 1508 ls [])) : W p l e room_1 s m #[Value.ref b] below meth c0 H locs (cells) (slots) (lw_Z below #[Value.ref b] s) (F0 m 496 ls []) := by
  obtain ⟨hx, hb, hr, hml, hown, hts0, hX, hbl, hlocks, hgv⟩ := id C0
  have hown : s.vm.findClass RL = some m.cls := hown
  have hts : ∀ w ∈ wsL_law, w.before #[Value.ref b] s = true := fun w hw => hts0 w (wsL_law_in w hw)
  have hbA : ¬ A b := fun h => absurd (hAi b h) (Nat.not_le.mpr hbl)
  have hLi : (L : Int) ≤ 3584 := by omega
  refine lv_aload_n hx hb dL_law_496 rfl (lv_at hl 2 rfl) ?_
  refine lv_aload_n hx hb dL_law_497 rfl (lv_at hl 3 rfl) ?_
  refine lv_iload_n hx hb dL_law_498 rfl (lv_at hl 0 rfl) ?_
  refine lv_iconst (v := 1) hx hb dL_law_499 (by decide) ?_
  refine lv_iadd hx hb dL_law_500 ?_
  refine lv_topi (fun x1 ex1 => ?_)
  have tx1 : x1.toInt = i.toInt + 1 := z_tadd ex1 rfl z_l1 (by omega) (by omega)
  refine va_sld hx hb hX hbl hbA hS (z_ix rfl (by omega) (by omega)) dL_law_501 ?_
  refine lv_topi (fun x2 ex2 => ?_)
  refine lv_aload_n hx hb dL_law_502 rfl (lv_at hl 3 rfl) ?_
  refine lv_iload_n hx hb dL_law_503 rfl (lv_at hl 0 rfl) ?_
  refine lv_iconst (v := 2) hx hb dL_law_504 (by decide) ?_
  refine lv_iadd hx hb dL_law_505 ?_
  refine lv_topi (fun x3 ex3 => ?_)
  have tx3 : x3.toInt = i.toInt + 2 := z_tadd ex3 rfl z_l2 (by omega) (by omega)
  refine va_sld hx hb hX hbl hbA hS (z_ix rfl (by omega) (by omega)) dL_law_506 ?_
  refine lv_topi (fun x4 ex4 => ?_)
  refine lv_aload_n hx hb dL_law_507 rfl (lv_at hl 3 rfl) ?_
  refine lv_iload_n hx hb dL_law_508 rfl (lv_at hl 0 rfl) ?_
  refine lv_iconst (v := 3) hx hb dL_law_509 (by decide) ?_
  refine lv_iadd hx hb dL_law_510 ?_
  refine lv_topi (fun x5 ex5 => ?_)
  have tx5 : x5.toInt = i.toInt + 3 := z_tadd ex5 rfl z_l3 (by omega) (by omega)
  refine va_sld hx hb hX hbl hbA hS (z_ix rfl (by omega) (by omega)) dL_law_511 ?_
  refine lv_topi (fun x6 ex6 => ?_)
  refine z_ciD hWX hWM hap hS hA (va_runV (As := [.int x2, .int x4, .int x6]) (rest := []) ⟨hx, hb, hml, hown, hts0⟩ (sx_X11_rule l G ad c Ix hLX.2.2.1 x2 x4 x6 hLX.2.2.2.2.2.2.2.2.2.1 hLX.2.2.2.2.2.2.2.2.2.2.1 _) (cwV 3 hts0 gV_X11_rule rfl rfl rfl (by decide +kernel) ⟨(Nat.le_of_ble_eq_true rfl), (Nat.le_of_ble_eq_true rfl)⟩) (z_preVS (i := 0) hK hWX hS hA hSt rfl rfl) rfl rfl hl.1 rfl (lv_room (Nat.le_of_ble_eq_true rfl)) dL_law_512 ⟨(by show cells + 0 ≤ 600000; omega), (by show slots + 0 ≤ 7302250; omega)⟩) (fun r u1 H locs hp hWX hWM hap hS => ?_)
  subst hp
  refine lv_topi (fun x7 ex7 => ?_)
  refine lv_pop hx hb dL_law_515 rfl ?_
  refine lv_aload_n hx hb dL_law_516 rfl (lv_at hl 1 rfl) ?_
  refine lv_aload_n hx hb dL_law_517 rfl (lv_at hl 3 rfl) ?_
  refine lv_iload_n hx hb dL_law_518 rfl (lv_at hl 0 rfl) ?_
  refine lv_iconst (v := 1) hx hb dL_law_519 (by decide) ?_
  refine lv_iadd hx hb dL_law_520 ?_
  refine lv_topi (fun x8 ex8 => ?_)
  have tx8 : x8.toInt = i.toInt + 1 := z_tadd ex8 rfl z_l1 (by omega) (by omega)
  refine va_sld hx hb hX hbl hbA hS (z_ix rfl (by omega) (by omega)) dL_law_521 ?_
  refine lv_topi (fun x9 ex9 => ?_)
  refine lv_aload_n hx hb dL_law_522 rfl (lv_at hl 3 rfl) ?_
  refine lv_iload_n hx hb dL_law_523 rfl (lv_at hl 0 rfl) ?_
  refine lv_iconst (v := 2) hx hb dL_law_524 (by decide) ?_
  refine lv_iadd hx hb dL_law_525 ?_
  refine lv_topi (fun x10 ex10 => ?_)
  have tx10 : x10.toInt = i.toInt + 2 := z_tadd ex10 rfl z_l2 (by omega) (by omega)
  refine va_sld hx hb hX hbl hbA hS (z_ix rfl (by omega) (by omega)) dL_law_526 ?_
  refine lv_topi (fun x11 ex11 => ?_)
  refine lv_aload_n hx hb dL_law_527 rfl (lv_at hl 3 rfl) ?_
  refine lv_iload_n hx hb dL_law_528 rfl (lv_at hl 0 rfl) ?_
  refine lv_iconst (v := 3) hx hb dL_law_529 (by decide) ?_
  refine lv_iadd hx hb dL_law_530 ?_
  refine lv_topi (fun x12 ex12 => ?_)
  have tx12 : x12.toInt = i.toInt + 3 := z_tadd ex12 rfl z_l3 (by omega) (by omega)
  refine va_sld hx hb hX hbl hbA hS (z_ix rfl (by omega) (by omega)) dL_law_531 ?_
  refine lv_topi (fun x13 ex13 => ?_)
  refine z_ciD hWM hWX (fun i j hi hj e => hap j i hj hi e.symm) hS hA (va_runV (As := [.int x9, .int x11, .int x13]) (rest := []) ⟨hx, hb, hml, hown, hts0⟩ (sx_X12_rule l G adM Im Jm hLM.2.1 hLM.2.2.2.2.2.2.2.2.2.2.2.2.2.2.2.1 hLM.2.2.2.2.2.2.2.2.2.2.2.2.2.2.2.2.1 x9 x11 x13 _) (cwV 3 hts0 gV_X12_rule rfl rfl rfl (by decide +kernel) ⟨(Nat.le_of_ble_eq_true rfl), (Nat.le_of_ble_eq_true rfl)⟩) (z_preV (i := 0) hK hWM rfl rfl) rfl rfl hl.1 rfl (lv_room (Nat.le_of_ble_eq_true rfl)) dL_law_532 ⟨(by show cells + 0 + 0 ≤ 600000; omega), (by show slots + 0 + 0 ≤ 7302250; omega)⟩) (fun r u1 H locs hp hWM hWX hapn hS => ?_)
  subst hp
  have hap := fun i j hi hj e => hapn j i hj hi (Eq.symm e)
  refine lv_topi (fun x14 ex14 => ?_)
  refine lv_pop hx hb dL_law_535 rfl ?_
  refine lv_goto (tgt := 1508) hx hb dL_law_536 (by decide) ?_
  have hEQ9 : z_EQ Ix Im := ⟨htd.1, htd.2.1, htd.2.2⟩
  refine W.widen (k := cells + 8) (n := slots + 2006) (by omega) (by omega) ?_
  exact kk c ad Ix Im Jm _ _ _ hLX hLM hEQ9 hWX hWM hap hS (lv_sub hl [0, 1, 2, 3] rfl)
set_option maxHeartbeats 8000000 in
set_option maxRecDepth 100000 in
theorem lc_9 {p : Program} {e : Env} {s : State} {m : MethodId} {below : List Frame} {meth : Method} {c0 : Code} {b L : Nat} {xs : Nat → Int32} (l : Launch) {G : z_G} {A : Nat → Prop} {adK adV : Nat → Nat} (hK : z_K G s) (hA : ∀ q : Nat, s.heap.size ≤ q → A q) (hAi : ∀ q : Nat, A q → s.heap.size ≤ q) (hSt : z_St A s s.heap) (hKn : z_Cq adK adV A s s.heap) (hL : L ≤ 3584) (C0 : lw_At p s m meth c0 b L xs) {c : z_C} {ad adM : Nat → Nat} {Ix Im : z_I} {Jm : z_J} (hLX : z_LX c Ix) (hLM : z_LM Im) (htd : z_EQ Ix Im) {H : Heap} {locs : List Loc} {ls : Array Slot} (hWX : z_W G A (shC c, ad, Ix, JX, PC c ad) H) (hWM : z_W G A (shM, adM, Im, Jm, PM adM) H) (hap : ∀ i j, shC c i ≠ none → shM j ≠ none → ad i ≠ adM j) (hS : va_S A s.heap H locs) {i : Int32} (hi0 : 0 ≤ i.toInt) (hiL : i.toInt + 7 ≤ (L : Int)) (hl : lv_has ls 4 [(3, .int i), (2, .ref (adM 0)), (1, .ref (ad 0)), (0, .ref b)]) {cells slots : Nat} (hce : cells + 8 ≤ 600000) (hsl : slots + 2006 ≤ 7302250) (kk : ∀ (c : z_C) (ad : Nat → Nat) (Ix Im : z_I) (Jm : z_J) (H : Heap) (locs : List Loc) (ls : Array Slot), z_LX c Ix → z_LM Im → z_EQ Ix Im → z_W G A (shC c, ad, Ix, JX, PC c ad) H → z_W G A (shM, adM, Im, Jm, PM adM) H → (∀ i j, shC c i ≠ none → shM j ≠ none → ad i ≠ adM j) → va_S A s.heap H locs → lv_has ls 4 [(3, .int i), (2, .ref (adM 0)), (1, .ref (ad 0)), (0, .ref b)] → W p l e room_1 s m #[Value.ref b] below meth c0 H locs (cells + 8) (slots + 2006) (lw_Z below #[Value.ref b] s) (F0 m 1508 ls [])) : W p l e room_1 s m #[Value.ref b] below meth c0 H locs (cells) (slots) (lw_Z below #[Value.ref b] s) (F0 m 539 ls []) := by
  obtain ⟨hx, hb, hr, hml, hown, hts0, hX, hbl, hlocks, hgv⟩ := id C0
  have hown : s.vm.findClass RL = some m.cls := hown
  have hts : ∀ w ∈ wsL_law, w.before #[Value.ref b] s = true := fun w hw => hts0 w (wsL_law_in w hw)
  have hbA : ¬ A b := fun h => absurd (hAi b h) (Nat.not_le.mpr hbl)
  have hLi : (L : Int) ≤ 3584 := by omega
  refine lv_aload_n hx hb dL_law_539 rfl (lv_at hl 2 rfl) ?_
  refine lv_aload_n hx hb dL_law_540 rfl (lv_at hl 3 rfl) ?_
  refine lv_iload_n hx hb dL_law_541 rfl (lv_at hl 0 rfl) ?_
  refine lv_iconst (v := 1) hx hb dL_law_542 (by decide) ?_
  refine lv_iadd hx hb dL_law_543 ?_
  refine lv_topi (fun x1 ex1 => ?_)
  have tx1 : x1.toInt = i.toInt + 1 := z_tadd ex1 rfl z_l1 (by omega) (by omega)
  refine va_sld hx hb hX hbl hbA hS (z_ix rfl (by omega) (by omega)) dL_law_544 ?_
  refine lv_topi (fun x2 ex2 => ?_)
  refine lv_aload_n hx hb dL_law_545 rfl (lv_at hl 3 rfl) ?_
  refine lv_iload_n hx hb dL_law_546 rfl (lv_at hl 0 rfl) ?_
  refine lv_iconst (v := 2) hx hb dL_law_547 (by decide) ?_
  refine lv_iadd hx hb dL_law_548 ?_
  refine lv_topi (fun x3 ex3 => ?_)
  have tx3 : x3.toInt = i.toInt + 2 := z_tadd ex3 rfl z_l2 (by omega) (by omega)
  refine va_sld hx hb hX hbl hbA hS (z_ix rfl (by omega) (by omega)) dL_law_549 ?_
  refine lv_topi (fun x4 ex4 => ?_)
  refine lv_aload_n hx hb dL_law_550 rfl (lv_at hl 3 rfl) ?_
  refine lv_iload_n hx hb dL_law_551 rfl (lv_at hl 0 rfl) ?_
  refine lv_iconst (v := 3) hx hb dL_law_552 (by decide) ?_
  refine lv_iadd hx hb dL_law_553 ?_
  refine lv_topi (fun x5 ex5 => ?_)
  have tx5 : x5.toInt = i.toInt + 3 := z_tadd ex5 rfl z_l3 (by omega) (by omega)
  refine va_sld hx hb hX hbl hbA hS (z_ix rfl (by omega) (by omega)) dL_law_554 ?_
  refine lv_topi (fun x6 ex6 => ?_)
  refine z_ciD hWX hWM hap hS hA (va_runV (As := [.int x2, .int x4, .int x6]) (rest := []) ⟨hx, hb, hml, hown, hts0⟩ (sx_X11_units l G ad c Ix hLX.2.2.1 hLX.1 x2 x4 x6 hLX.2.2.2.2.2.2.2.2.2.1 hLX.2.2.2.2.2.2.2.2.2.2.1 _) (cwV 3 hts0 gV_X11_units rfl rfl rfl (by decide +kernel) ⟨(Nat.le_of_ble_eq_true rfl), (Nat.le_of_ble_eq_true rfl)⟩) (z_preV (i := 0) hK hWX rfl rfl) rfl rfl hl.1 rfl (lv_room (Nat.le_of_ble_eq_true rfl)) dL_law_555 ⟨(by show cells + 0 ≤ 600000; omega), (by show slots + 0 ≤ 7302250; omega)⟩) (fun r u1 H locs hp hWX hWM hap hS => ?_)
  obtain ⟨I7, rfl, p9, p10, p11⟩ := hp
  have hLXI7 : z_LX c I7 := ⟨p10, ⟨(by show 0 ≤ (I7 12 1).toInt ∧ (I7 12 1).toInt ≤ 500; rw [p11 12 1 (by decide)]; exact hLX.2.1.1), (by show 0 ≤ (I7 12 5).toInt ∧ (I7 12 5).toInt ≤ 501; rw [p11 12 5 (by decide)]; exact hLX.2.1.2.1), (by show (-1) ≤ (I7 12 6).toInt ∧ (I7 12 6).toInt ≤ 1000000; rw [p11 12 6 (by decide)]; exact hLX.2.1.2.2.1), (by show 0 ≤ (I7 12 9).toInt ∧ (I7 12 9).toInt ≤ 500; rw [p11 12 9 (by decide)]; exact hLX.2.1.2.2.2.1), (by show 0 ≤ (I7 12 13).toInt ∧ (I7 12 13).toInt ≤ 24; rw [p11 12 13 (by decide)]; exact hLX.2.1.2.2.2.2)⟩, p9, (by show 0 ≤ (I7 26 4).toInt ∧ (I7 26 4).toInt ≤ 512; rw [p11 26 4 (by decide)]; exact hLX.2.2.2.1), (by show 0 ≤ (I7 30 8).toInt ∧ (I7 30 8).toInt ≤ 300; rw [p11 30 8 (by decide)]; exact hLX.2.2.2.2.1), (by show 0 ≤ (I7 41 10).toInt ∧ (I7 41 10).toInt ≤ 4; rw [p11 41 10 (by decide)]; exact hLX.2.2.2.2.2.1), ⟨(by show 0 ≤ (I7 60 9).toInt ∧ (I7 60 9).toInt ≤ 60; rw [p11 60 9 (by decide)]; exact hLX.2.2.2.2.2.2.1.1), (by show 0 ≤ (I7 60 12).toInt ∧ (I7 60 12).toInt ≤ 12; rw [p11 60 12 (by decide)]; exact hLX.2.2.2.2.2.2.1.2)⟩, (by show 0 ≤ (I7 72 2).toInt ∧ (I7 72 2).toInt ≤ 30; rw [p11 72 2 (by decide)]; exact hLX.2.2.2.2.2.2.2.1), ⟨(by show 0 ≤ (I7 0 0).toInt ∧ (I7 0 0).toInt ≤ 719; rw [p11 0 0 (by decide)]; exact hLX.2.2.2.2.2.2.2.2.1.1), (by show 0 ≤ (I7 0 8).toInt ∧ (I7 0 8).toInt ≤ 10; rw [p11 0 8 (by decide)]; exact hLX.2.2.2.2.2.2.2.2.1.2)⟩, hLX.2.2.2.2.2.2.2.2.2.1, hLX.2.2.2.2.2.2.2.2.2.2.1, (z_iS_fr hLX.2.2.2.2.2.2.2.2.2.2.2.1 p11 (by decide)), (by rw [p11 0 8 (by decide)]; exact hLX.2.2.2.2.2.2.2.2.2.2.2.2.1), (by rw [p11 21 2 (by decide)]; exact hLX.2.2.2.2.2.2.2.2.2.2.2.2.2)⟩
  refine lv_topi (fun x12 ex12 => ?_)
  refine lv_pop hx hb dL_law_558 rfl ?_
  refine lv_aload_n hx hb dL_law_559 rfl (lv_at hl 1 rfl) ?_
  refine lv_aload_n hx hb dL_law_560 rfl (lv_at hl 3 rfl) ?_
  refine lv_iload_n hx hb dL_law_561 rfl (lv_at hl 0 rfl) ?_
  refine lv_iconst (v := 1) hx hb dL_law_562 (by decide) ?_
  refine lv_iadd hx hb dL_law_563 ?_
  refine lv_topi (fun x13 ex13 => ?_)
  have tx13 : x13.toInt = i.toInt + 1 := z_tadd ex13 rfl z_l1 (by omega) (by omega)
  refine va_sld hx hb hX hbl hbA hS (z_ix rfl (by omega) (by omega)) dL_law_564 ?_
  refine lv_topi (fun x14 ex14 => ?_)
  refine lv_aload_n hx hb dL_law_565 rfl (lv_at hl 3 rfl) ?_
  refine lv_iload_n hx hb dL_law_566 rfl (lv_at hl 0 rfl) ?_
  refine lv_iconst (v := 2) hx hb dL_law_567 (by decide) ?_
  refine lv_iadd hx hb dL_law_568 ?_
  refine lv_topi (fun x15 ex15 => ?_)
  have tx15 : x15.toInt = i.toInt + 2 := z_tadd ex15 rfl z_l2 (by omega) (by omega)
  refine va_sld hx hb hX hbl hbA hS (z_ix rfl (by omega) (by omega)) dL_law_569 ?_
  refine lv_topi (fun x16 ex16 => ?_)
  refine lv_aload_n hx hb dL_law_570 rfl (lv_at hl 3 rfl) ?_
  refine lv_iload_n hx hb dL_law_571 rfl (lv_at hl 0 rfl) ?_
  refine lv_iconst (v := 3) hx hb dL_law_572 (by decide) ?_
  refine lv_iadd hx hb dL_law_573 ?_
  refine lv_topi (fun x17 ex17 => ?_)
  have tx17 : x17.toInt = i.toInt + 3 := z_tadd ex17 rfl z_l3 (by omega) (by omega)
  refine va_sld hx hb hX hbl hbA hS (z_ix rfl (by omega) (by omega)) dL_law_574 ?_
  refine lv_topi (fun x18 ex18 => ?_)
  refine z_ciD hWM hWX (fun i j hi hj e => hap j i hj hi e.symm) hS hA (va_runV (As := [.int x14, .int x16, .int x18]) (rest := []) ⟨hx, hb, hml, hown, hts0⟩ (sx_X12_units l G adM Im Jm hLM.1 hLM.2.1 hLM.2.2.2.2.2.2.2.2.2.2.2.2.2.2.2.1 hLM.2.2.2.2.2.2.2.2.2.2.2.2.2.2.2.2.1 hLM.2.2.2.2.2.2.2.2.2.2.2.2.2.2.2.2.2.2.2.2.1 hLM.2.2.2.2.2.2.2.2.2.2.2.2.2.2.2.2.2.1 hLM.2.2.2.2.2.2.2.2.2.2.2.2.2.2.2.2.2.2.1 hLM.2.2.2.2.2.2.2.2.2.2.2.2.2.2.2.2.2.2.2.1 hLM.2.2.2.2.2.2.2.2.2.2.2.2.2.2.2.2.2.2.2.2.2.1 x14 x16 x18 _) (cwV 3 hts0 gV_X12_units rfl rfl rfl (by decide +kernel) ⟨(Nat.le_of_ble_eq_true rfl), (Nat.le_of_ble_eq_true rfl)⟩) (z_preV (i := 0) hK hWM rfl rfl) rfl rfl hl.1 rfl (lv_room (Nat.le_of_ble_eq_true rfl)) dL_law_575 ⟨(by show cells + 0 + 0 ≤ 600000; omega), (by show slots + 0 + 0 ≤ 7302250; omega)⟩) (fun r u1 H locs hp hWM hWX hapn hS => ?_)
  obtain ⟨I19, J20, rfl, p21, p22, p23, p24, p25, p26, p27, p28, p29, p30⟩ := hp
  have hLMI19 : z_LM I19 := ⟨p21, p22, (by show 0 ≤ (I19 0 15).toInt ∧ (I19 0 15).toInt ≤ 6100; rw [p30 0 15 (by decide)]; exact hLM.2.2.1), ⟨(by show 0 ≤ (I19 0 31).toInt ∧ (I19 0 31).toInt ≤ 500; rw [p30 0 31 (by decide)]; exact hLM.2.2.2.1.1), (by show 0 ≤ (I19 0 33).toInt ∧ (I19 0 33).toInt ≤ 500; rw [p30 0 33 (by decide)]; exact hLM.2.2.2.1.2.1), (by show 0 ≤ (I19 0 34).toInt ∧ (I19 0 34).toInt ≤ 500; rw [p30 0 34 (by decide)]; exact hLM.2.2.2.1.2.2.1), (by show 0 ≤ (I19 0 35).toInt ∧ (I19 0 35).toInt ≤ 500; rw [p30 0 35 (by decide)]; exact hLM.2.2.2.1.2.2.2)⟩, ⟨(by show 0 ≤ (I19 0 36).toInt ∧ (I19 0 36).toInt ≤ 4; rw [p30 0 36 (by decide)]; exact hLM.2.2.2.2.1.1), (by show 0 ≤ (I19 0 42).toInt ∧ (I19 0 42).toInt ≤ 1; rw [p30 0 42 (by decide)]; exact hLM.2.2.2.2.1.2)⟩, ⟨(by show 0 ≤ (I19 0 47).toInt ∧ (I19 0 47).toInt ≤ 119; rw [p30 0 47 (by decide)]; exact hLM.2.2.2.2.2.1.1), (by show 0 ≤ (I19 0 39).toInt ∧ (I19 0 39).toInt ≤ 100; rw [p30 0 39 (by decide)]; exact hLM.2.2.2.2.2.1.2)⟩, (by show 0 ≤ (I19 0 40).toInt ∧ (I19 0 40).toInt ≤ 6199; rw [p30 0 40 (by decide)]; exact hLM.2.2.2.2.2.2.1), ⟨(by show 0 ≤ (I19 0 54).toInt ∧ (I19 0 54).toInt ≤ 10; rw [p30 0 54 (by decide)]; exact hLM.2.2.2.2.2.2.2.1.1), (by show 0 ≤ (I19 0 55).toInt ∧ (I19 0 55).toInt ≤ 300; rw [p30 0 55 (by decide)]; exact hLM.2.2.2.2.2.2.2.1.2)⟩, (by show 0 ≤ (I19 0 75).toInt ∧ (I19 0 75).toInt ≤ 4; rw [p30 0 75 (by decide)]; exact hLM.2.2.2.2.2.2.2.2.1), (by show 0 ≤ (I19 0 83).toInt ∧ (I19 0 83).toInt ≤ 60; rw [p30 0 83 (by decide)]; exact hLM.2.2.2.2.2.2.2.2.2.1), (z_rg_fr hLM.2.2.2.2.2.2.2.2.2.2.1 p30 (by decide)), (z_rg_fr hLM.2.2.2.2.2.2.2.2.2.2.2.1 p30 (by decide)), (z_rg_fr hLM.2.2.2.2.2.2.2.2.2.2.2.2.1 p30 (by decide)), (z_rg_fr hLM.2.2.2.2.2.2.2.2.2.2.2.2.2.1 p30 (by decide)), (z_rg_fr hLM.2.2.2.2.2.2.2.2.2.2.2.2.2.2.1 p30 (by decide)), p23, p24, p26, p27, p28, p25, p29, (z_rg_fr hLM.2.2.2.2.2.2.2.2.2.2.2.2.2.2.2.2.2.2.2.2.2.2.1 p30 (by decide)), (z_rg_fr hLM.2.2.2.2.2.2.2.2.2.2.2.2.2.2.2.2.2.2.2.2.2.2.2.1 p30 (by decide)), (z_rg_fr hLM.2.2.2.2.2.2.2.2.2.2.2.2.2.2.2.2.2.2.2.2.2.2.2.2.1 p30 (by decide)), (z_rg_fr hLM.2.2.2.2.2.2.2.2.2.2.2.2.2.2.2.2.2.2.2.2.2.2.2.2.2.1 p30 (by decide)), (z_rg_fr hLM.2.2.2.2.2.2.2.2.2.2.2.2.2.2.2.2.2.2.2.2.2.2.2.2.2.2.1 p30 (by decide)), (z_rg_fr hLM.2.2.2.2.2.2.2.2.2.2.2.2.2.2.2.2.2.2.2.2.2.2.2.2.2.2.2.1 p30 (by decide)), (z_rg_fr hLM.2.2.2.2.2.2.2.2.2.2.2.2.2.2.2.2.2.2.2.2.2.2.2.2.2.2.2.2.1 p30 (by decide)), (by unfold z_iro; rw [p30 0 13 (by decide), p30 0 14 (by decide), p30 0 15 (by decide)]; exact hLM.2.2.2.2.2.2.2.2.2.2.2.2.2.2.2.2.2.2.2.2.2.2.2.2.2.2.2.2.2)⟩
  have hap := fun i j hi hj e => hapn j i hj hi (Eq.symm e)
  refine lv_topi (fun x31 ex31 => ?_)
  refine lv_pop hx hb dL_law_578 rfl ?_
  refine lv_goto (tgt := 1508) hx hb dL_law_579 (by decide) ?_
  have hEQ9 : z_EQ I7 I19 := ⟨(by rw [p11 0 0 (by decide), p30 0 0 (by decide)]; exact htd.1), (by rw [p11 1 5 (by decide), p30 0 1 (by decide)]; exact htd.2.1), (by rw [p11 60 9 (by decide), p30 0 83 (by decide)]; exact htd.2.2)⟩
  refine W.widen (k := cells + 8) (n := slots + 2006) (by omega) (by omega) ?_
  exact kk c ad I7 I19 J20 _ _ _ hLXI7 hLMI19 hEQ9 hWX hWM hap hS (lv_sub hl [0, 1, 2, 3] rfl)
set_option maxHeartbeats 8000000 in
set_option maxRecDepth 100000 in
theorem lc_10 {p : Program} {e : Env} {s : State} {m : MethodId} {below : List Frame} {meth : Method} {c0 : Code} {b L : Nat} {xs : Nat → Int32} (l : Launch) {G : z_G} {A : Nat → Prop} {adK adV : Nat → Nat} (hK : z_K G s) (hA : ∀ q : Nat, s.heap.size ≤ q → A q) (hAi : ∀ q : Nat, A q → s.heap.size ≤ q) (hSt : z_St A s s.heap) (hKn : z_Cq adK adV A s s.heap) (hL : L ≤ 3584) (C0 : lw_At p s m meth c0 b L xs) {c : z_C} {ad adM : Nat → Nat} {Ix Im : z_I} {Jm : z_J} (hLX : z_LX c Ix) (hLM : z_LM Im) (htd : z_EQ Ix Im) {H : Heap} {locs : List Loc} {ls : Array Slot} (hWX : z_W G A (shC c, ad, Ix, JX, PC c ad) H) (hWM : z_W G A (shM, adM, Im, Jm, PM adM) H) (hap : ∀ i j, shC c i ≠ none → shM j ≠ none → ad i ≠ adM j) (hS : va_S A s.heap H locs) {i : Int32} (hi0 : 0 ≤ i.toInt) (hiL : i.toInt + 7 ≤ (L : Int)) (hl : lv_has ls 4 [(3, .int i), (2, .ref (adM 0)), (1, .ref (ad 0)), (0, .ref b)]) {cells slots : Nat} (hce : cells + 8 ≤ 600000) (hsl : slots + 2006 ≤ 7302250) (kk : ∀ (c : z_C) (ad : Nat → Nat) (Ix Im : z_I) (Jm : z_J) (H : Heap) (locs : List Loc) (ls : Array Slot), z_LX c Ix → z_LM Im → z_EQ Ix Im → z_W G A (shC c, ad, Ix, JX, PC c ad) H → z_W G A (shM, adM, Im, Jm, PM adM) H → (∀ i j, shC c i ≠ none → shM j ≠ none → ad i ≠ adM j) → va_S A s.heap H locs → lv_has ls 4 [(3, .int i), (2, .ref (adM 0)), (1, .ref (ad 0)), (0, .ref b)] → W p l e room_1 s m #[Value.ref b] below meth c0 H locs (cells + 8) (slots + 2006) (lw_Z below #[Value.ref b] s) (F0 m 1508 ls [])) : W p l e room_1 s m #[Value.ref b] below meth c0 H locs (cells) (slots) (lw_Z below #[Value.ref b] s) (F0 m 582 ls []) := by
  obtain ⟨hx, hb, hr, hml, hown, hts0, hX, hbl, hlocks, hgv⟩ := id C0
  have hown : s.vm.findClass RL = some m.cls := hown
  have hts : ∀ w ∈ wsL_law, w.before #[Value.ref b] s = true := fun w hw => hts0 w (wsL_law_in w hw)
  have hbA : ¬ A b := fun h => absurd (hAi b h) (Nat.not_le.mpr hbl)
  have hLi : (L : Int) ≤ 3584 := by omega
  refine lv_aload_n hx hb dL_law_582 rfl (lv_at hl 2 rfl) ?_
  refine lv_aload_n hx hb dL_law_583 rfl (lv_at hl 3 rfl) ?_
  refine lv_iload_n hx hb dL_law_584 rfl (lv_at hl 0 rfl) ?_
  refine lv_iconst (v := 1) hx hb dL_law_585 (by decide) ?_
  refine lv_iadd hx hb dL_law_586 ?_
  refine lv_topi (fun x1 ex1 => ?_)
  have tx1 : x1.toInt = i.toInt + 1 := z_tadd ex1 rfl z_l1 (by omega) (by omega)
  refine va_sld hx hb hX hbl hbA hS (z_ix rfl (by omega) (by omega)) dL_law_587 ?_
  refine lv_topi (fun x2 ex2 => ?_)
  refine lv_aload_n hx hb dL_law_588 rfl (lv_at hl 3 rfl) ?_
  refine lv_iload_n hx hb dL_law_589 rfl (lv_at hl 0 rfl) ?_
  refine lv_iconst (v := 2) hx hb dL_law_590 (by decide) ?_
  refine lv_iadd hx hb dL_law_591 ?_
  refine lv_topi (fun x3 ex3 => ?_)
  have tx3 : x3.toInt = i.toInt + 2 := z_tadd ex3 rfl z_l2 (by omega) (by omega)
  refine va_sld hx hb hX hbl hbA hS (z_ix rfl (by omega) (by omega)) dL_law_592 ?_
  refine lv_topi (fun x4 ex4 => ?_)
  refine z_ciD hWX hWM hap hS hA (va_runV (As := [.int x2, .int x4]) (rest := []) ⟨hx, hb, hml, hown, hts0⟩ (sx_X11_issue l G ad c Ix hLX.2.2.1 hLX.1 hLX.2.2.2.2.2.2.2.2.1 x2 x4 hLX.2.2.2.2.2.2.2.2.2.1 hLX.2.2.2.2.2.2.2.2.2.2.1 _) (cwV 2 hts0 gV_X11_issue rfl rfl rfl (by decide +kernel) ⟨(Nat.le_of_ble_eq_true rfl), (Nat.le_of_ble_eq_true rfl)⟩) (z_preV (i := 0) hK hWX rfl rfl) rfl rfl hl.1 rfl (lv_room (Nat.le_of_ble_eq_true rfl)) dL_law_593 ⟨(by show cells + 0 ≤ 600000; omega), (by show slots + 0 ≤ 7302250; omega)⟩) (fun r u1 H locs hp hWX hWM hap hS => ?_)
  obtain ⟨I5, rfl, p7, p8, p9, p10⟩ := hp
  have hLXI5 : z_LX c I5 := ⟨p8, ⟨(by show 0 ≤ (I5 12 1).toInt ∧ (I5 12 1).toInt ≤ 500; rw [p10 12 1 (by decide)]; exact hLX.2.1.1), (by show 0 ≤ (I5 12 5).toInt ∧ (I5 12 5).toInt ≤ 501; rw [p10 12 5 (by decide)]; exact hLX.2.1.2.1), (by show (-1) ≤ (I5 12 6).toInt ∧ (I5 12 6).toInt ≤ 1000000; rw [p10 12 6 (by decide)]; exact hLX.2.1.2.2.1), (by show 0 ≤ (I5 12 9).toInt ∧ (I5 12 9).toInt ≤ 500; rw [p10 12 9 (by decide)]; exact hLX.2.1.2.2.2.1), (by show 0 ≤ (I5 12 13).toInt ∧ (I5 12 13).toInt ≤ 24; rw [p10 12 13 (by decide)]; exact hLX.2.1.2.2.2.2)⟩, p7, (by show 0 ≤ (I5 26 4).toInt ∧ (I5 26 4).toInt ≤ 512; rw [p10 26 4 (by decide)]; exact hLX.2.2.2.1), (by show 0 ≤ (I5 30 8).toInt ∧ (I5 30 8).toInt ≤ 300; rw [p10 30 8 (by decide)]; exact hLX.2.2.2.2.1), (by show 0 ≤ (I5 41 10).toInt ∧ (I5 41 10).toInt ≤ 4; rw [p10 41 10 (by decide)]; exact hLX.2.2.2.2.2.1), ⟨(by show 0 ≤ (I5 60 9).toInt ∧ (I5 60 9).toInt ≤ 60; rw [p10 60 9 (by decide)]; exact hLX.2.2.2.2.2.2.1.1), (by show 0 ≤ (I5 60 12).toInt ∧ (I5 60 12).toInt ≤ 12; rw [p10 60 12 (by decide)]; exact hLX.2.2.2.2.2.2.1.2)⟩, (by show 0 ≤ (I5 72 2).toInt ∧ (I5 72 2).toInt ≤ 30; rw [p10 72 2 (by decide)]; exact hLX.2.2.2.2.2.2.2.1), p9, hLX.2.2.2.2.2.2.2.2.2.1, hLX.2.2.2.2.2.2.2.2.2.2.1, (z_iS_fr hLX.2.2.2.2.2.2.2.2.2.2.2.1 p10 (by decide)), (by rw [p10 0 8 (by decide)]; exact hLX.2.2.2.2.2.2.2.2.2.2.2.2.1), (by rw [p10 21 2 (by decide)]; exact hLX.2.2.2.2.2.2.2.2.2.2.2.2.2)⟩
  refine lv_topi (fun x11 ex11 => ?_)
  refine lv_pop hx hb dL_law_596 rfl ?_
  refine lv_aload_n hx hb dL_law_597 rfl (lv_at hl 1 rfl) ?_
  refine lv_aload_n hx hb dL_law_598 rfl (lv_at hl 3 rfl) ?_
  refine lv_iload_n hx hb dL_law_599 rfl (lv_at hl 0 rfl) ?_
  refine lv_iconst (v := 1) hx hb dL_law_600 (by decide) ?_
  refine lv_iadd hx hb dL_law_601 ?_
  refine lv_topi (fun x12 ex12 => ?_)
  have tx12 : x12.toInt = i.toInt + 1 := z_tadd ex12 rfl z_l1 (by omega) (by omega)
  refine va_sld hx hb hX hbl hbA hS (z_ix rfl (by omega) (by omega)) dL_law_602 ?_
  refine lv_topi (fun x13 ex13 => ?_)
  refine lv_aload_n hx hb dL_law_603 rfl (lv_at hl 3 rfl) ?_
  refine lv_iload_n hx hb dL_law_604 rfl (lv_at hl 0 rfl) ?_
  refine lv_iconst (v := 2) hx hb dL_law_605 (by decide) ?_
  refine lv_iadd hx hb dL_law_606 ?_
  refine lv_topi (fun x14 ex14 => ?_)
  have tx14 : x14.toInt = i.toInt + 2 := z_tadd ex14 rfl z_l2 (by omega) (by omega)
  refine va_sld hx hb hX hbl hbA hS (z_ix rfl (by omega) (by omega)) dL_law_607 ?_
  refine lv_topi (fun x15 ex15 => ?_)
  refine z_ciD hWM hWX (fun i j hi hj e => hap j i hj hi e.symm) hS hA (va_runV (As := [.int x13, .int x15]) (rest := []) ⟨hx, hb, hml, hown, hts0⟩ (sx_X12_issue l G adM Im Jm hLM.1 hLM.2.1 hLM.2.2.2.2.2.2.2.2.2.2.2.2.2.2.2.1 hLM.2.2.2.2.2.2.2.2.2.2.2.2.2.2.2.2.1 hLM.2.2.2.2.2.2.2.2.2.2.2.2.2.2.2.2.2.2.2.2.1 hLM.2.2.2.2.2.2.2.2.2.2.2.2.2.2.2.2.2.1 hLM.2.2.2.2.2.2.2.2.2.2.2.2.2.2.2.2.2.2.1 hLM.2.2.2.2.2.2.2.2.2.2.2.2.2.2.2.2.2.2.2.1 hLM.2.2.2.2.2.2.2.2.2.2.2.2.2.2.2.2.2.2.2.2.2.1 x13 x15 _) (cwV 2 hts0 gV_X12_issue rfl rfl rfl (by decide +kernel) ⟨(Nat.le_of_ble_eq_true rfl), (Nat.le_of_ble_eq_true rfl)⟩) (z_preV (i := 0) hK hWM rfl rfl) rfl rfl hl.1 rfl (lv_room (Nat.le_of_ble_eq_true rfl)) dL_law_608 ⟨(by show cells + 0 + 0 ≤ 600000; omega), (by show slots + 0 + 0 ≤ 7302250; omega)⟩) (fun r u1 H locs hp hWM hWX hapn hS => ?_)
  obtain ⟨I16, J17, rfl, p18, p19, p20, p21, p22, p23, p24, p25, p26, p27⟩ := hp
  have hLMI16 : z_LM I16 := ⟨p18, p19, (by show 0 ≤ (I16 0 15).toInt ∧ (I16 0 15).toInt ≤ 6100; rw [p27 0 15 (by decide)]; exact hLM.2.2.1), ⟨(by show 0 ≤ (I16 0 31).toInt ∧ (I16 0 31).toInt ≤ 500; rw [p27 0 31 (by decide)]; exact hLM.2.2.2.1.1), (by show 0 ≤ (I16 0 33).toInt ∧ (I16 0 33).toInt ≤ 500; rw [p27 0 33 (by decide)]; exact hLM.2.2.2.1.2.1), (by show 0 ≤ (I16 0 34).toInt ∧ (I16 0 34).toInt ≤ 500; rw [p27 0 34 (by decide)]; exact hLM.2.2.2.1.2.2.1), (by show 0 ≤ (I16 0 35).toInt ∧ (I16 0 35).toInt ≤ 500; rw [p27 0 35 (by decide)]; exact hLM.2.2.2.1.2.2.2)⟩, ⟨(by show 0 ≤ (I16 0 36).toInt ∧ (I16 0 36).toInt ≤ 4; rw [p27 0 36 (by decide)]; exact hLM.2.2.2.2.1.1), (by show 0 ≤ (I16 0 42).toInt ∧ (I16 0 42).toInt ≤ 1; rw [p27 0 42 (by decide)]; exact hLM.2.2.2.2.1.2)⟩, ⟨(by show 0 ≤ (I16 0 47).toInt ∧ (I16 0 47).toInt ≤ 119; rw [p27 0 47 (by decide)]; exact hLM.2.2.2.2.2.1.1), (by show 0 ≤ (I16 0 39).toInt ∧ (I16 0 39).toInt ≤ 100; rw [p27 0 39 (by decide)]; exact hLM.2.2.2.2.2.1.2)⟩, (by show 0 ≤ (I16 0 40).toInt ∧ (I16 0 40).toInt ≤ 6199; rw [p27 0 40 (by decide)]; exact hLM.2.2.2.2.2.2.1), ⟨(by show 0 ≤ (I16 0 54).toInt ∧ (I16 0 54).toInt ≤ 10; rw [p27 0 54 (by decide)]; exact hLM.2.2.2.2.2.2.2.1.1), (by show 0 ≤ (I16 0 55).toInt ∧ (I16 0 55).toInt ≤ 300; rw [p27 0 55 (by decide)]; exact hLM.2.2.2.2.2.2.2.1.2)⟩, (by show 0 ≤ (I16 0 75).toInt ∧ (I16 0 75).toInt ≤ 4; rw [p27 0 75 (by decide)]; exact hLM.2.2.2.2.2.2.2.2.1), (by show 0 ≤ (I16 0 83).toInt ∧ (I16 0 83).toInt ≤ 60; rw [p27 0 83 (by decide)]; exact hLM.2.2.2.2.2.2.2.2.2.1), (z_rg_fr hLM.2.2.2.2.2.2.2.2.2.2.1 p27 (by decide)), (z_rg_fr hLM.2.2.2.2.2.2.2.2.2.2.2.1 p27 (by decide)), (z_rg_fr hLM.2.2.2.2.2.2.2.2.2.2.2.2.1 p27 (by decide)), (z_rg_fr hLM.2.2.2.2.2.2.2.2.2.2.2.2.2.1 p27 (by decide)), (z_rg_fr hLM.2.2.2.2.2.2.2.2.2.2.2.2.2.2.1 p27 (by decide)), p20, p21, p23, p24, p25, p22, p26, (z_rg_fr hLM.2.2.2.2.2.2.2.2.2.2.2.2.2.2.2.2.2.2.2.2.2.2.1 p27 (by decide)), (z_rg_fr hLM.2.2.2.2.2.2.2.2.2.2.2.2.2.2.2.2.2.2.2.2.2.2.2.1 p27 (by decide)), (z_rg_fr hLM.2.2.2.2.2.2.2.2.2.2.2.2.2.2.2.2.2.2.2.2.2.2.2.2.1 p27 (by decide)), (z_rg_fr hLM.2.2.2.2.2.2.2.2.2.2.2.2.2.2.2.2.2.2.2.2.2.2.2.2.2.1 p27 (by decide)), (z_rg_fr hLM.2.2.2.2.2.2.2.2.2.2.2.2.2.2.2.2.2.2.2.2.2.2.2.2.2.2.1 p27 (by decide)), (z_rg_fr hLM.2.2.2.2.2.2.2.2.2.2.2.2.2.2.2.2.2.2.2.2.2.2.2.2.2.2.2.1 p27 (by decide)), (z_rg_fr hLM.2.2.2.2.2.2.2.2.2.2.2.2.2.2.2.2.2.2.2.2.2.2.2.2.2.2.2.2.1 p27 (by decide)), (by unfold z_iro; rw [p27 0 13 (by decide), p27 0 14 (by decide), p27 0 15 (by decide)]; exact hLM.2.2.2.2.2.2.2.2.2.2.2.2.2.2.2.2.2.2.2.2.2.2.2.2.2.2.2.2.2)⟩
  have hap := fun i j hi hj e => hapn j i hj hi (Eq.symm e)
  refine lv_topi (fun x28 ex28 => ?_)
  refine lv_pop hx hb dL_law_611 rfl ?_
  refine lv_goto (tgt := 1508) hx hb dL_law_612 (by decide) ?_
  have hEQ9 : z_EQ I5 I16 := ⟨(by rw [p10 0 0 (by decide), p27 0 0 (by decide)]; exact htd.1), (by rw [p10 1 5 (by decide), p27 0 1 (by decide)]; exact htd.2.1), (by rw [p10 60 9 (by decide), p27 0 83 (by decide)]; exact htd.2.2)⟩
  refine W.widen (k := cells + 8) (n := slots + 2006) (by omega) (by omega) ?_
  exact kk c ad I5 I16 J17 _ _ _ hLXI5 hLMI16 hEQ9 hWX hWM hap hS (lv_sub hl [0, 1, 2, 3] rfl)
set_option maxHeartbeats 8000000 in
set_option maxRecDepth 100000 in
theorem lc_11 {p : Program} {e : Env} {s : State} {m : MethodId} {below : List Frame} {meth : Method} {c0 : Code} {b L : Nat} {xs : Nat → Int32} (l : Launch) {G : z_G} {A : Nat → Prop} {adK adV : Nat → Nat} (hK : z_K G s) (hA : ∀ q : Nat, s.heap.size ≤ q → A q) (hAi : ∀ q : Nat, A q → s.heap.size ≤ q) (hSt : z_St A s s.heap) (hKn : z_Cq adK adV A s s.heap) (hL : L ≤ 3584) (C0 : lw_At p s m meth c0 b L xs) {c : z_C} {ad adM : Nat → Nat} {Ix Im : z_I} {Jm : z_J} (hLX : z_LX c Ix) (hLM : z_LM Im) (htd : z_EQ Ix Im) {H : Heap} {locs : List Loc} {ls : Array Slot} (hWX : z_W G A (shC c, ad, Ix, JX, PC c ad) H) (hWM : z_W G A (shM, adM, Im, Jm, PM adM) H) (hap : ∀ i j, shC c i ≠ none → shM j ≠ none → ad i ≠ adM j) (hS : va_S A s.heap H locs) {i : Int32} (hi0 : 0 ≤ i.toInt) (hiL : i.toInt + 7 ≤ (L : Int)) (hl : lv_has ls 4 [(3, .int i), (2, .ref (adM 0)), (1, .ref (ad 0)), (0, .ref b)]) {cells slots : Nat} (hce : cells + 8 ≤ 600000) (hsl : slots + 2006 ≤ 7302250) (kk : ∀ (c : z_C) (ad : Nat → Nat) (Ix Im : z_I) (Jm : z_J) (H : Heap) (locs : List Loc) (ls : Array Slot), z_LX c Ix → z_LM Im → z_EQ Ix Im → z_W G A (shC c, ad, Ix, JX, PC c ad) H → z_W G A (shM, adM, Im, Jm, PM adM) H → (∀ i j, shC c i ≠ none → shM j ≠ none → ad i ≠ adM j) → va_S A s.heap H locs → lv_has ls 4 [(3, .int i), (2, .ref (adM 0)), (1, .ref (ad 0)), (0, .ref b)] → W p l e room_1 s m #[Value.ref b] below meth c0 H locs (cells + 8) (slots + 2006) (lw_Z below #[Value.ref b] s) (F0 m 1508 ls [])) : W p l e room_1 s m #[Value.ref b] below meth c0 H locs (cells) (slots) (lw_Z below #[Value.ref b] s) (F0 m 615 ls []) := by
  obtain ⟨hx, hb, hr, hml, hown, hts0, hX, hbl, hlocks, hgv⟩ := id C0
  have hown : s.vm.findClass RL = some m.cls := hown
  have hts : ∀ w ∈ wsL_law, w.before #[Value.ref b] s = true := fun w hw => hts0 w (wsL_law_in w hw)
  have hbA : ¬ A b := fun h => absurd (hAi b h) (Nat.not_le.mpr hbl)
  have hLi : (L : Int) ≤ 3584 := by omega
  refine lv_aload_n hx hb dL_law_615 rfl (lv_at hl 2 rfl) ?_
  refine lv_aload_n hx hb dL_law_616 rfl (lv_at hl 3 rfl) ?_
  refine lv_iload_n hx hb dL_law_617 rfl (lv_at hl 0 rfl) ?_
  refine lv_iconst (v := 1) hx hb dL_law_618 (by decide) ?_
  refine lv_iadd hx hb dL_law_619 ?_
  refine lv_topi (fun x1 ex1 => ?_)
  have tx1 : x1.toInt = i.toInt + 1 := z_tadd ex1 rfl z_l1 (by omega) (by omega)
  refine va_sld hx hb hX hbl hbA hS (z_ix rfl (by omega) (by omega)) dL_law_620 ?_
  refine lv_topi (fun x2 ex2 => ?_)
  refine lv_aload_n hx hb dL_law_621 rfl (lv_at hl 3 rfl) ?_
  refine lv_iload_n hx hb dL_law_622 rfl (lv_at hl 0 rfl) ?_
  refine lv_iconst (v := 2) hx hb dL_law_623 (by decide) ?_
  refine lv_iadd hx hb dL_law_624 ?_
  refine lv_topi (fun x3 ex3 => ?_)
  have tx3 : x3.toInt = i.toInt + 2 := z_tadd ex3 rfl z_l2 (by omega) (by omega)
  refine va_sld hx hb hX hbl hbA hS (z_ix rfl (by omega) (by omega)) dL_law_625 ?_
  refine lv_topi (fun x4 ex4 => ?_)
  refine z_ciD hWX hWM hap hS hA (va_runV (As := [.int x2, .int x4]) (rest := []) ⟨hx, hb, hml, hown, hts0⟩ (sx_X11_lend l G ad c Ix hLX.2.2.1 hLX.1 hLX.2.2.2.2.2.2.2.2.1 hLX.2.2.2.1 hLX.2.2.2.2.1 x2 x4 hLX.2.2.2.2.2.2.2.2.2.1 hLX.2.2.2.2.2.2.2.2.2.2.1 _) (cwV 2 hts0 gV_X11_lend rfl rfl rfl (by decide +kernel) ⟨(Nat.le_of_ble_eq_true rfl), (Nat.le_of_ble_eq_true rfl)⟩) (z_preVS (i := 0) hK hWX hS hA hSt rfl rfl) rfl rfl hl.1 rfl (lv_room (Nat.le_of_ble_eq_true rfl)) dL_law_626 ⟨(by show cells + 0 ≤ 600000; omega), (by show slots + 0 ≤ 7302250; omega)⟩) (fun r u1 H locs hp hWX hWM hap hS => ?_)
  obtain ⟨I5, rfl, p7, p8, p9, p10, p11, p12, p13⟩ := hp
  have hLXI5 : z_LX c I5 := ⟨p8, ⟨(by show 0 ≤ (I5 12 1).toInt ∧ (I5 12 1).toInt ≤ 500; rw [p12 12 1 (by decide)]; exact hLX.2.1.1), (by show 0 ≤ (I5 12 5).toInt ∧ (I5 12 5).toInt ≤ 501; rw [p12 12 5 (by decide)]; exact hLX.2.1.2.1), (by show (-1) ≤ (I5 12 6).toInt ∧ (I5 12 6).toInt ≤ 1000000; rw [p12 12 6 (by decide)]; exact hLX.2.1.2.2.1), (by show 0 ≤ (I5 12 9).toInt ∧ (I5 12 9).toInt ≤ 500; rw [p12 12 9 (by decide)]; exact hLX.2.1.2.2.2.1), (by show 0 ≤ (I5 12 13).toInt ∧ (I5 12 13).toInt ≤ 24; rw [p12 12 13 (by decide)]; exact hLX.2.1.2.2.2.2)⟩, p7, p10, p11, (by show 0 ≤ (I5 41 10).toInt ∧ (I5 41 10).toInt ≤ 4; rw [p12 41 10 (by decide)]; exact hLX.2.2.2.2.2.1), ⟨(by show 0 ≤ (I5 60 9).toInt ∧ (I5 60 9).toInt ≤ 60; rw [p12 60 9 (by decide)]; exact hLX.2.2.2.2.2.2.1.1), (by show 0 ≤ (I5 60 12).toInt ∧ (I5 60 12).toInt ≤ 12; rw [p12 60 12 (by decide)]; exact hLX.2.2.2.2.2.2.1.2)⟩, (by show 0 ≤ (I5 72 2).toInt ∧ (I5 72 2).toInt ≤ 30; rw [p12 72 2 (by decide)]; exact hLX.2.2.2.2.2.2.2.1), p9, hLX.2.2.2.2.2.2.2.2.2.1, hLX.2.2.2.2.2.2.2.2.2.2.1, (z_iS_fr hLX.2.2.2.2.2.2.2.2.2.2.2.1 p12 (by decide)), (by rw [p12 0 8 (by decide)]; exact hLX.2.2.2.2.2.2.2.2.2.2.2.2.1), (by rw [p12 21 2 (by decide)]; exact hLX.2.2.2.2.2.2.2.2.2.2.2.2.2)⟩
  refine lv_topi (fun x14 ex14 => ?_)
  refine lv_pop hx hb dL_law_629 rfl ?_
  refine lv_aload_n hx hb dL_law_630 rfl (lv_at hl 1 rfl) ?_
  refine lv_aload_n hx hb dL_law_631 rfl (lv_at hl 3 rfl) ?_
  refine lv_iload_n hx hb dL_law_632 rfl (lv_at hl 0 rfl) ?_
  refine lv_iconst (v := 1) hx hb dL_law_633 (by decide) ?_
  refine lv_iadd hx hb dL_law_634 ?_
  refine lv_topi (fun x15 ex15 => ?_)
  have tx15 : x15.toInt = i.toInt + 1 := z_tadd ex15 rfl z_l1 (by omega) (by omega)
  refine va_sld hx hb hX hbl hbA hS (z_ix rfl (by omega) (by omega)) dL_law_635 ?_
  refine lv_topi (fun x16 ex16 => ?_)
  refine lv_aload_n hx hb dL_law_636 rfl (lv_at hl 3 rfl) ?_
  refine lv_iload_n hx hb dL_law_637 rfl (lv_at hl 0 rfl) ?_
  refine lv_iconst (v := 2) hx hb dL_law_638 (by decide) ?_
  refine lv_iadd hx hb dL_law_639 ?_
  refine lv_topi (fun x17 ex17 => ?_)
  have tx17 : x17.toInt = i.toInt + 2 := z_tadd ex17 rfl z_l2 (by omega) (by omega)
  refine va_sld hx hb hX hbl hbA hS (z_ix rfl (by omega) (by omega)) dL_law_640 ?_
  refine lv_topi (fun x18 ex18 => ?_)
  refine z_ciD hWM hWX (fun i j hi hj e => hap j i hj hi e.symm) hS hA (va_runV (As := [.int x16, .int x18]) (rest := []) ⟨hx, hb, hml, hown, hts0⟩ (sx_X12_lend l G adM Im Jm hLM.1 hLM.2.1 hLM.2.2.2.2.2.2.2.2.2.2.2.2.2.2.2.1 hLM.2.2.2.2.2.2.2.2.2.2.2.2.2.2.2.2.1 x16 x18 _) (cwV 2 hts0 gV_X12_lend rfl rfl rfl (by decide +kernel) ⟨(Nat.le_of_ble_eq_true rfl), (Nat.le_of_ble_eq_true rfl)⟩) (z_preV (i := 0) hK hWM rfl rfl) rfl rfl hl.1 rfl (lv_room (Nat.le_of_ble_eq_true rfl)) dL_law_641 ⟨(by show cells + 0 + 0 ≤ 600000; omega), (by show slots + 0 + 0 ≤ 7302250; omega)⟩) (fun r u1 H locs hp hWM hWX hapn hS => ?_)
  obtain ⟨I19, J20, rfl, p21, p22, p23, p24, p25, p26⟩ := hp
  have hLMI19 : z_LM I19 := ⟨p21, p22, (by show 0 ≤ (I19 0 15).toInt ∧ (I19 0 15).toInt ≤ 6100; rw [p25 0 15 (by decide)]; exact hLM.2.2.1), ⟨(by show 0 ≤ (I19 0 31).toInt ∧ (I19 0 31).toInt ≤ 500; rw [p25 0 31 (by decide)]; exact hLM.2.2.2.1.1), (by show 0 ≤ (I19 0 33).toInt ∧ (I19 0 33).toInt ≤ 500; rw [p25 0 33 (by decide)]; exact hLM.2.2.2.1.2.1), (by show 0 ≤ (I19 0 34).toInt ∧ (I19 0 34).toInt ≤ 500; rw [p25 0 34 (by decide)]; exact hLM.2.2.2.1.2.2.1), (by show 0 ≤ (I19 0 35).toInt ∧ (I19 0 35).toInt ≤ 500; rw [p25 0 35 (by decide)]; exact hLM.2.2.2.1.2.2.2)⟩, ⟨(by show 0 ≤ (I19 0 36).toInt ∧ (I19 0 36).toInt ≤ 4; rw [p25 0 36 (by decide)]; exact hLM.2.2.2.2.1.1), (by show 0 ≤ (I19 0 42).toInt ∧ (I19 0 42).toInt ≤ 1; rw [p25 0 42 (by decide)]; exact hLM.2.2.2.2.1.2)⟩, ⟨(by show 0 ≤ (I19 0 47).toInt ∧ (I19 0 47).toInt ≤ 119; rw [p25 0 47 (by decide)]; exact hLM.2.2.2.2.2.1.1), (by show 0 ≤ (I19 0 39).toInt ∧ (I19 0 39).toInt ≤ 100; rw [p25 0 39 (by decide)]; exact hLM.2.2.2.2.2.1.2)⟩, (by show 0 ≤ (I19 0 40).toInt ∧ (I19 0 40).toInt ≤ 6199; rw [p25 0 40 (by decide)]; exact hLM.2.2.2.2.2.2.1), ⟨(by show 0 ≤ (I19 0 54).toInt ∧ (I19 0 54).toInt ≤ 10; rw [p25 0 54 (by decide)]; exact hLM.2.2.2.2.2.2.2.1.1), (by show 0 ≤ (I19 0 55).toInt ∧ (I19 0 55).toInt ≤ 300; rw [p25 0 55 (by decide)]; exact hLM.2.2.2.2.2.2.2.1.2)⟩, (by show 0 ≤ (I19 0 75).toInt ∧ (I19 0 75).toInt ≤ 4; rw [p25 0 75 (by decide)]; exact hLM.2.2.2.2.2.2.2.2.1), (by show 0 ≤ (I19 0 83).toInt ∧ (I19 0 83).toInt ≤ 60; rw [p25 0 83 (by decide)]; exact hLM.2.2.2.2.2.2.2.2.2.1), (z_rg_fr hLM.2.2.2.2.2.2.2.2.2.2.1 p25 (by decide)), (z_rg_fr hLM.2.2.2.2.2.2.2.2.2.2.2.1 p25 (by decide)), (z_rg_fr hLM.2.2.2.2.2.2.2.2.2.2.2.2.1 p25 (by decide)), (z_rg_fr hLM.2.2.2.2.2.2.2.2.2.2.2.2.2.1 p25 (by decide)), (z_rg_fr hLM.2.2.2.2.2.2.2.2.2.2.2.2.2.2.1 p25 (by decide)), p23, p24, (z_rg_fr hLM.2.2.2.2.2.2.2.2.2.2.2.2.2.2.2.2.2.1 p25 (by decide)), (z_rg_fr hLM.2.2.2.2.2.2.2.2.2.2.2.2.2.2.2.2.2.2.1 p25 (by decide)), (z_rg_fr hLM.2.2.2.2.2.2.2.2.2.2.2.2.2.2.2.2.2.2.2.1 p25 (by decide)), (z_Nd_fr hLM.2.2.2.2.2.2.2.2.2.2.2.2.2.2.2.2.2.2.2.2.1 p25 (by decide)), (z_Ex_fr hLM.2.2.2.2.2.2.2.2.2.2.2.2.2.2.2.2.2.2.2.2.2.1 p25 (by decide)), (z_rg_fr hLM.2.2.2.2.2.2.2.2.2.2.2.2.2.2.2.2.2.2.2.2.2.2.1 p25 (by decide)), (z_rg_fr hLM.2.2.2.2.2.2.2.2.2.2.2.2.2.2.2.2.2.2.2.2.2.2.2.1 p25 (by decide)), (z_rg_fr hLM.2.2.2.2.2.2.2.2.2.2.2.2.2.2.2.2.2.2.2.2.2.2.2.2.1 p25 (by decide)), (z_rg_fr hLM.2.2.2.2.2.2.2.2.2.2.2.2.2.2.2.2.2.2.2.2.2.2.2.2.2.1 p25 (by decide)), (z_rg_fr hLM.2.2.2.2.2.2.2.2.2.2.2.2.2.2.2.2.2.2.2.2.2.2.2.2.2.2.1 p25 (by decide)), (z_rg_fr hLM.2.2.2.2.2.2.2.2.2.2.2.2.2.2.2.2.2.2.2.2.2.2.2.2.2.2.2.1 p25 (by decide)), (z_rg_fr hLM.2.2.2.2.2.2.2.2.2.2.2.2.2.2.2.2.2.2.2.2.2.2.2.2.2.2.2.2.1 p25 (by decide)), (by unfold z_iro; rw [p25 0 13 (by decide), p25 0 14 (by decide), p25 0 15 (by decide)]; exact hLM.2.2.2.2.2.2.2.2.2.2.2.2.2.2.2.2.2.2.2.2.2.2.2.2.2.2.2.2.2)⟩
  have hap := fun i j hi hj e => hapn j i hj hi (Eq.symm e)
  refine lv_topi (fun x27 ex27 => ?_)
  refine lv_pop hx hb dL_law_644 rfl ?_
  refine lv_goto (tgt := 1508) hx hb dL_law_645 (by decide) ?_
  have hEQ9 : z_EQ I5 I19 := ⟨(by rw [p12 0 0 (by decide), p25 0 0 (by decide)]; exact htd.1), (by rw [p12 1 5 (by decide), p25 0 1 (by decide)]; exact htd.2.1), (by rw [p12 60 9 (by decide), p25 0 83 (by decide)]; exact htd.2.2)⟩
  refine W.widen (k := cells + 8) (n := slots + 2006) (by omega) (by omega) ?_
  exact kk c ad I5 I19 J20 _ _ _ hLXI5 hLMI19 hEQ9 hWX hWM hap hS (lv_sub hl [0, 1, 2, 3] rfl)
