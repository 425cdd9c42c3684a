/-! OWN DECODE ROWS of the law, by program (wip/whole/gen/names.py) -/
theorem d_L_law_0 : decode b_L_law 0 = .ok (.new 8, 3) := by decide +kernel
theorem d_L_law_3 : decode b_L_law 3 = .ok (.dup, 1) := by decide +kernel
theorem d_L_law_4 : decode b_L_law 4 = .ok (.aload_n 0, 1) := by decide +kernel
theorem d_L_law_5 : decode b_L_law 5 = .ok (.iconst 0, 1) := by decide +kernel
theorem d_L_law_6 : decode b_L_law 6 = .ok (.invokestatic 56, 3) := by decide +kernel
theorem d_L_law_9 : decode b_L_law 9 = .ok (.aload_n 0, 1) := by decide +kernel
theorem d_L_law_10 : decode b_L_law 10 = .ok (.iconst 1, 1) := by decide +kernel
theorem d_L_law_11 : decode b_L_law 11 = .ok (.invokestatic 56, 3) := by decide +kernel
theorem d_L_law_14 : decode b_L_law 14 = .ok (.aload_n 0, 1) := by decide +kernel
theorem d_L_law_15 : decode b_L_law 15 = .ok (.iconst 2, 1) := by decide +kernel
theorem d_L_law_16 : decode b_L_law 16 = .ok (.invokestatic 56, 3) := by decide +kernel
theorem d_L_law_19 : decode b_L_law 19 = .ok (.invokespecial 62, 3) := by decide +kernel
theorem d_L_law_22 : decode b_L_law 22 = .ok (.astore_n 1, 1) := by decide +kernel
theorem d_L_law_23 : decode b_L_law 23 = .ok (.new 65, 3) := by decide +kernel
theorem d_L_law_26 : decode b_L_law 26 = .ok (.dup, 1) := by decide +kernel
theorem d_L_law_27 : decode b_L_law 27 = .ok (.aload_n 0, 1) := by decide +kernel
theorem d_L_law_28 : decode b_L_law 28 = .ok (.iconst 0, 1) := by decide +kernel
theorem d_L_law_29 : decode b_L_law 29 = .ok (.invokestatic 56, 3) := by decide +kernel
theorem d_L_law_32 : decode b_L_law 32 = .ok (.aload_n 0, 1) := by decide +kernel
theorem d_L_law_33 : decode b_L_law 33 = .ok (.iconst 1, 1) := by decide +kernel
theorem d_L_law_34 : decode b_L_law 34 = .ok (.invokestatic 56, 3) := by decide +kernel
theorem d_L_law_37 : decode b_L_law 37 = .ok (.aload_n 0, 1) := by decide +kernel
theorem d_L_law_38 : decode b_L_law 38 = .ok (.iconst 2, 1) := by decide +kernel
theorem d_L_law_39 : decode b_L_law 39 = .ok (.invokestatic 56, 3) := by decide +kernel
theorem d_L_law_42 : decode b_L_law 42 = .ok (.invokespecial 67, 3) := by decide +kernel
theorem d_L_law_45 : decode b_L_law 45 = .ok (.astore_n 2, 1) := by decide +kernel
theorem d_L_law_46 : decode b_L_law 46 = .ok (.iconst 1, 1) := by decide +kernel
theorem d_L_law_47 : decode b_L_law 47 = .ok (.newarray .long, 2) := by decide +kernel
theorem d_L_law_49 : decode b_L_law 49 = .ok (.astore_n 3, 1) := by decide +kernel
theorem d_L_law_50 : decode b_L_law 50 = .ok (.iconst 3, 1) := by decide +kernel
theorem d_L_law_51 : decode b_L_law 51 = .ok (.istore 4, 2) := by decide +kernel
theorem d_L_law_53 : decode b_L_law 53 = .ok (.iload 4, 2) := by decide +kernel
theorem d_L_law_55 : decode b_L_law 55 = .ok (.aload_n 0, 1) := by decide +kernel
theorem d_L_law_56 : decode b_L_law 56 = .ok (.arraylength, 1) := by decide +kernel
theorem d_L_law_57 : decode b_L_law 57 = .ok (.iconst 4, 1) := by decide +kernel
theorem d_L_law_58 : decode b_L_law 58 = .ok (.isub, 1) := by decide +kernel
theorem d_L_law_59 : decode b_L_law 59 = .ok (.if_icmp .gt 1058, 3) := by decide +kernel
theorem d_L_law_62 : decode b_L_law 62 = .ok (.aload_n 0, 1) := by decide +kernel
theorem d_L_law_63 : decode b_L_law 63 = .ok (.iload 4, 2) := by decide +kernel
theorem d_L_law_65 : decode b_L_law 65 = .ok (.iaload, 1) := by decide +kernel
theorem d_L_law_66 : decode b_L_law 66 = .ok (.bipush 31, 2) := by decide +kernel
theorem d_L_law_68 : decode b_L_law 68 = .ok (.iand, 1) := by decide +kernel
theorem d_L_law_69 : decode b_L_law 69 = .ok (.tableswitch 1042 0 17 #[87, 155, 239, 307, 363, 376, 439, 507, 563, 619, 675, 688, 701, 785, 869, 910, 1006, 1031], 87) := by decide +kernel
theorem d_L_law_156 : decode b_L_law 156 = .ok (.aload_n 1, 1) := by decide +kernel
theorem d_L_law_157 : decode b_L_law 157 = .ok (.aload_n 0, 1) := by decide +kernel
theorem d_L_law_158 : decode b_L_law 158 = .ok (.iload 4, 2) := by decide +kernel
theorem d_L_law_160 : decode b_L_law 160 = .ok (.iconst 1, 1) := by decide +kernel
theorem d_L_law_161 : decode b_L_law 161 = .ok (.iadd, 1) := by decide +kernel
theorem d_L_law_162 : decode b_L_law 162 = .ok (.iaload, 1) := by decide +kernel
theorem d_L_law_163 : decode b_L_law 163 = .ok (.aload_n 0, 1) := by decide +kernel
theorem d_L_law_164 : decode b_L_law 164 = .ok (.iload 4, 2) := by decide +kernel
theorem d_L_law_166 : decode b_L_law 166 = .ok (.iconst 2, 1) := by decide +kernel
theorem d_L_law_167 : decode b_L_law 167 = .ok (.iadd, 1) := by decide +kernel
theorem d_L_law_168 : decode b_L_law 168 = .ok (.iaload, 1) := by decide +kernel
theorem d_L_law_169 : decode b_L_law 169 = .ok (.aload_n 3, 1) := by decide +kernel
theorem d_L_law_170 : decode b_L_law 170 = .ok (.invokestatic 68, 3) := by decide +kernel
theorem d_L_law_173 : decode b_L_law 173 = .ok (.istore 5, 2) := by decide +kernel
theorem d_L_law_175 : decode b_L_law 175 = .ok (.aload_n 2, 1) := by decide +kernel
theorem d_L_law_176 : decode b_L_law 176 = .ok (.aload_n 0, 1) := by decide +kernel
theorem d_L_law_177 : decode b_L_law 177 = .ok (.iload 4, 2) := by decide +kernel
theorem d_L_law_179 : decode b_L_law 179 = .ok (.iconst 1, 1) := by decide +kernel
theorem d_L_law_180 : decode b_L_law 180 = .ok (.iadd, 1) := by decide +kernel
theorem d_L_law_181 : decode b_L_law 181 = .ok (.iaload, 1) := by decide +kernel
theorem d_L_law_182 : decode b_L_law 182 = .ok (.aload_n 0, 1) := by decide +kernel
theorem d_L_law_183 : decode b_L_law 183 = .ok (.iload 4, 2) := by decide +kernel
theorem d_L_law_185 : decode b_L_law 185 = .ok (.iconst 2, 1) := by decide +kernel
theorem d_L_law_186 : decode b_L_law 186 = .ok (.iadd, 1) := by decide +kernel
theorem d_L_law_187 : decode b_L_law 187 = .ok (.iaload, 1) := by decide +kernel
theorem d_L_law_188 : decode b_L_law 188 = .ok (.invokevirtual 71, 3) := by decide +kernel
theorem d_L_law_191 : decode b_L_law 191 = .ok (.istore 6, 2) := by decide +kernel
theorem d_L_law_193 : decode b_L_law 193 = .ok (.aload_n 2, 1) := by decide +kernel
theorem d_L_law_194 : decode b_L_law 194 = .ok (.invokevirtual 72, 3) := by decide +kernel
theorem d_L_law_197 : decode b_L_law 197 = .ok (.iload 5, 2) := by decide +kernel
theorem d_L_law_199 : decode b_L_law 199 = .ok (.if_icmp .eq 5, 3) := by decide +kernel
theorem d_L_law_202 : decode b_L_law 202 = .ok (.iconst 0, 1) := by decide +kernel
theorem d_L_law_203 : decode b_L_law 203 = .ok (.ireturn, 1) := by decide +kernel
theorem d_L_law_204 : decode b_L_law 204 = .ok (.iload 5, 2) := by decide +kernel
theorem d_L_law_206 : decode b_L_law 206 = .ok (.ifCond .ne 15, 3) := by decide +kernel
theorem d_L_law_209 : decode b_L_law 209 = .ok (.aload_n 3, 1) := by decide +kernel
theorem d_L_law_210 : decode b_L_law 210 = .ok (.iconst 0, 1) := by decide +kernel
theorem d_L_law_211 : decode b_L_law 211 = .ok (.laload, 1) := by decide +kernel
theorem d_L_law_212 : decode b_L_law 212 = .ok (.iload 6, 2) := by decide +kernel
theorem d_L_law_214 : decode b_L_law 214 = .ok (.i2l, 1) := by decide +kernel
theorem d_L_law_215 : decode b_L_law 215 = .ok (.lcmp, 1) := by decide +kernel
theorem d_L_law_216 : decode b_L_law 216 = .ok (.ifCond .eq 5, 3) := by decide +kernel
theorem d_L_law_219 : decode b_L_law 219 = .ok (.iconst 0, 1) := by decide +kernel
theorem d_L_law_220 : decode b_L_law 220 = .ok (.ireturn, 1) := by decide +kernel
theorem d_L_law_221 : decode b_L_law 221 = .ok (.goto 890, 3) := by decide +kernel
theorem d_L_law_224 : decode b_L_law 224 = .ok (.aload_n 1, 1) := by decide +kernel
theorem d_L_law_225 : decode b_L_law 225 = .ok (.aload_n 0, 1) := by decide +kernel
theorem d_L_law_226 : decode b_L_law 226 = .ok (.iload 4, 2) := by decide +kernel
theorem d_L_law_228 : decode b_L_law 228 = .ok (.iconst 1, 1) := by decide +kernel
theorem d_L_law_229 : decode b_L_law 229 = .ok (.iadd, 1) := by decide +kernel
theorem d_L_law_230 : decode b_L_law 230 = .ok (.iaload, 1) := by decide +kernel
theorem d_L_law_231 : decode b_L_law 231 = .ok (.aload_n 0, 1) := by decide +kernel
theorem d_L_law_232 : decode b_L_law 232 = .ok (.iload 4, 2) := by decide +kernel
theorem d_L_law_234 : decode b_L_law 234 = .ok (.iconst 2, 1) := by decide +kernel
theorem d_L_law_235 : decode b_L_law 235 = .ok (.iadd, 1) := by decide +kernel
theorem d_L_law_236 : decode b_L_law 236 = .ok (.iaload, 1) := by decide +kernel
theorem d_L_law_237 : decode b_L_law 237 = .ok (.ifCond .eq 7, 3) := by decide +kernel
theorem d_L_law_240 : decode b_L_law 240 = .ok (.iconst 1, 1) := by decide +kernel
theorem d_L_law_241 : decode b_L_law 241 = .ok (.goto 4, 3) := by decide +kernel
theorem d_L_law_244 : decode b_L_law 244 = .ok (.iconst 0, 1) := by decide +kernel
theorem d_L_law_245 : decode b_L_law 245 = .ok (.aload_n 3, 1) := by decide +kernel
theorem d_L_law_246 : decode b_L_law 246 = .ok (.invokestatic 76, 3) := by decide +kernel
theorem d_L_law_249 : decode b_L_law 249 = .ok (.istore 5, 2) := by decide +kernel
theorem d_L_law_251 : decode b_L_law 251 = .ok (.aload_n 2, 1) := by decide +kernel
theorem d_L_law_252 : decode b_L_law 252 = .ok (.aload_n 0, 1) := by decide +kernel
theorem d_L_law_253 : decode b_L_law 253 = .ok (.iload 4, 2) := by decide +kernel
theorem d_L_law_255 : decode b_L_law 255 = .ok (.iconst 1, 1) := by decide +kernel
theorem d_L_law_256 : decode b_L_law 256 = .ok (.iadd, 1) := by decide +kernel
theorem d_L_law_257 : decode b_L_law 257 = .ok (.iaload, 1) := by decide +kernel
theorem d_L_law_258 : decode b_L_law 258 = .ok (.aload_n 0, 1) := by decide +kernel
theorem d_L_law_259 : decode b_L_law 259 = .ok (.iload 4, 2) := by decide +kernel
theorem d_L_law_261 : decode b_L_law 261 = .ok (.iconst 2, 1) := by decide +kernel
theorem d_L_law_262 : decode b_L_law 262 = .ok (.iadd, 1) := by decide +kernel
theorem d_L_law_263 : decode b_L_law 263 = .ok (.iaload, 1) := by decide +kernel
theorem d_L_law_264 : decode b_L_law 264 = .ok (.ifCond .eq 7, 3) := by decide +kernel
theorem d_L_law_267 : decode b_L_law 267 = .ok (.iconst 1, 1) := by decide +kernel
theorem d_L_law_268 : decode b_L_law 268 = .ok (.goto 4, 3) := by decide +kernel
theorem d_L_law_271 : decode b_L_law 271 = .ok (.iconst 0, 1) := by decide +kernel
theorem d_L_law_272 : decode b_L_law 272 = .ok (.invokevirtual 79, 3) := by decide +kernel
theorem d_L_law_275 : decode b_L_law 275 = .ok (.istore 6, 2) := by decide +kernel
theorem d_L_law_277 : decode b_L_law 277 = .ok (.aload_n 2, 1) := by decide +kernel
theorem d_L_law_278 : decode b_L_law 278 = .ok (.invokevirtual 72, 3) := by decide +kernel
theorem d_L_law_281 : decode b_L_law 281 = .ok (.iload 5, 2) := by decide +kernel
theorem d_L_law_283 : decode b_L_law 283 = .ok (.if_icmp .eq 5, 3) := by decide +kernel
theorem d_L_law_286 : decode b_L_law 286 = .ok (.iconst 0, 1) := by decide +kernel
theorem d_L_law_287 : decode b_L_law 287 = .ok (.ireturn, 1) := by decide +kernel
theorem d_L_law_288 : decode b_L_law 288 = .ok (.iload 5, 2) := by decide +kernel
theorem d_L_law_290 : decode b_L_law 290 = .ok (.ifCond .ne 15, 3) := by decide +kernel
theorem d_L_law_293 : decode b_L_law 293 = .ok (.aload_n 3, 1) := by decide +kernel
theorem d_L_law_294 : decode b_L_law 294 = .ok (.iconst 0, 1) := by decide +kernel
theorem d_L_law_295 : decode b_L_law 295 = .ok (.laload, 1) := by decide +kernel
theorem d_L_law_296 : decode b_L_law 296 = .ok (.iload 6, 2) := by decide +kernel
theorem d_L_law_298 : decode b_L_law 298 = .ok (.i2l, 1) := by decide +kernel
theorem d_L_law_299 : decode b_L_law 299 = .ok (.lcmp, 1) := by decide +kernel
theorem d_L_law_300 : decode b_L_law 300 = .ok (.ifCond .eq 5, 3) := by decide +kernel
theorem d_L_law_303 : decode b_L_law 303 = .ok (.iconst 0, 1) := by decide +kernel
theorem d_L_law_304 : decode b_L_law 304 = .ok (.ireturn, 1) := by decide +kernel
theorem d_L_law_305 : decode b_L_law 305 = .ok (.goto 806, 3) := by decide +kernel
theorem d_L_law_308 : decode b_L_law 308 = .ok (.aload_n 1, 1) := by decide +kernel
theorem d_L_law_309 : decode b_L_law 309 = .ok (.aload_n 0, 1) := by decide +kernel
theorem d_L_law_310 : decode b_L_law 310 = .ok (.iload 4, 2) := by decide +kernel
theorem d_L_law_312 : decode b_L_law 312 = .ok (.iconst 1, 1) := by decide +kernel
theorem d_L_law_313 : decode b_L_law 313 = .ok (.iadd, 1) := by decide +kernel
theorem d_L_law_314 : decode b_L_law 314 = .ok (.iaload, 1) := by decide +kernel
theorem d_L_law_315 : decode b_L_law 315 = .ok (.aload_n 0, 1) := by decide +kernel
theorem d_L_law_316 : decode b_L_law 316 = .ok (.iload 4, 2) := by decide +kernel
theorem d_L_law_318 : decode b_L_law 318 = .ok (.iconst 2, 1) := by decide +kernel
theorem d_L_law_319 : decode b_L_law 319 = .ok (.iadd, 1) := by decide +kernel
theorem d_L_law_320 : decode b_L_law 320 = .ok (.iaload, 1) := by decide +kernel
theorem d_L_law_321 : decode b_L_law 321 = .ok (.aload_n 3, 1) := by decide +kernel
theorem d_L_law_322 : decode b_L_law 322 = .ok (.invokestatic 80, 3) := by decide +kernel
theorem d_L_law_325 : decode b_L_law 325 = .ok (.istore 5, 2) := by decide +kernel
theorem d_L_law_327 : decode b_L_law 327 = .ok (.aload_n 2, 1) := by decide +kernel
theorem d_L_law_328 : decode b_L_law 328 = .ok (.aload_n 0, 1) := by decide +kernel
theorem d_L_law_329 : decode b_L_law 329 = .ok (.iload 4, 2) := by decide +kernel
theorem d_L_law_331 : decode b_L_law 331 = .ok (.iconst 1, 1) := by decide +kernel
theorem d_L_law_332 : decode b_L_law 332 = .ok (.iadd, 1) := by decide +kernel
theorem d_L_law_333 : decode b_L_law 333 = .ok (.iaload, 1) := by decide +kernel
theorem d_L_law_334 : decode b_L_law 334 = .ok (.aload_n 0, 1) := by decide +kernel
theorem d_L_law_335 : decode b_L_law 335 = .ok (.iload 4, 2) := by decide +kernel
theorem d_L_law_337 : decode b_L_law 337 = .ok (.iconst 2, 1) := by decide +kernel
theorem d_L_law_338 : decode b_L_law 338 = .ok (.iadd, 1) := by decide +kernel
theorem d_L_law_339 : decode b_L_law 339 = .ok (.iaload, 1) := by decide +kernel
theorem d_L_law_340 : decode b_L_law 340 = .ok (.invokevirtual 82, 3) := by decide +kernel
theorem d_L_law_343 : decode b_L_law 343 = .ok (.istore 6, 2) := by decide +kernel
theorem d_L_law_345 : decode b_L_law 345 = .ok (.aload_n 2, 1) := by decide +kernel
theorem d_L_law_346 : decode b_L_law 346 = .ok (.invokevirtual 72, 3) := by decide +kernel
theorem d_L_law_349 : decode b_L_law 349 = .ok (.iload 5, 2) := by decide +kernel
theorem d_L_law_351 : decode b_L_law 351 = .ok (.if_icmp .eq 5, 3) := by decide +kernel
theorem d_L_law_354 : decode b_L_law 354 = .ok (.iconst 0, 1) := by decide +kernel
theorem d_L_law_355 : decode b_L_law 355 = .ok (.ireturn, 1) := by decide +kernel
theorem d_L_law_356 : decode b_L_law 356 = .ok (.iload 5, 2) := by decide +kernel
theorem d_L_law_358 : decode b_L_law 358 = .ok (.ifCond .ne 15, 3) := by decide +kernel
theorem d_L_law_361 : decode b_L_law 361 = .ok (.aload_n 3, 1) := by decide +kernel
theorem d_L_law_362 : decode b_L_law 362 = .ok (.iconst 0, 1) := by decide +kernel
theorem d_L_law_363 : decode b_L_law 363 = .ok (.laload, 1) := by decide +kernel
theorem d_L_law_364 : decode b_L_law 364 = .ok (.iload 6, 2) := by decide +kernel
theorem d_L_law_366 : decode b_L_law 366 = .ok (.i2l, 1) := by decide +kernel
theorem d_L_law_367 : decode b_L_law 367 = .ok (.lcmp, 1) := by decide +kernel
theorem d_L_law_368 : decode b_L_law 368 = .ok (.ifCond .eq 5, 3) := by decide +kernel
theorem d_L_law_371 : decode b_L_law 371 = .ok (.iconst 0, 1) := by decide +kernel
theorem d_L_law_372 : decode b_L_law 372 = .ok (.ireturn, 1) := by decide +kernel
theorem d_L_law_373 : decode b_L_law 373 = .ok (.goto 738, 3) := by decide +kernel
theorem d_L_law_376 : decode b_L_law 376 = .ok (.aload_n 1, 1) := by decide +kernel
theorem d_L_law_377 : decode b_L_law 377 = .ok (.aload_n 0, 1) := by decide +kernel
theorem d_L_law_378 : decode b_L_law 378 = .ok (.iload 4, 2) := by decide +kernel
theorem d_L_law_380 : decode b_L_law 380 = .ok (.iconst 1, 1) := by decide +kernel
theorem d_L_law_381 : decode b_L_law 381 = .ok (.iadd, 1) := by decide +kernel
theorem d_L_law_382 : decode b_L_law 382 = .ok (.iaload, 1) := by decide +kernel
theorem d_L_law_383 : decode b_L_law 383 = .ok (.aload_n 3, 1) := by decide +kernel
theorem d_L_law_384 : decode b_L_law 384 = .ok (.invokestatic 83, 3) := by decide +kernel
theorem d_L_law_387 : decode b_L_law 387 = .ok (.istore 5, 2) := by decide +kernel
theorem d_L_law_389 : decode b_L_law 389 = .ok (.aload_n 2, 1) := by decide +kernel
theorem d_L_law_390 : decode b_L_law 390 = .ok (.aload_n 0, 1) := by decide +kernel
theorem d_L_law_391 : decode b_L_law 391 = .ok (.iload 4, 2) := by decide +kernel
theorem d_L_law_393 : decode b_L_law 393 = .ok (.iconst 1, 1) := by decide +kernel
theorem d_L_law_394 : decode b_L_law 394 = .ok (.iadd, 1) := by decide +kernel
theorem d_L_law_395 : decode b_L_law 395 = .ok (.iaload, 1) := by decide +kernel
theorem d_L_law_396 : decode b_L_law 396 = .ok (.invokevirtual 86, 3) := by decide +kernel
theorem d_L_law_399 : decode b_L_law 399 = .ok (.istore 6, 2) := by decide +kernel
theorem d_L_law_401 : decode b_L_law 401 = .ok (.aload_n 2, 1) := by decide +kernel
theorem d_L_law_402 : decode b_L_law 402 = .ok (.invokevirtual 72, 3) := by decide +kernel
theorem d_L_law_405 : decode b_L_law 405 = .ok (.iload 5, 2) := by decide +kernel
theorem d_L_law_407 : decode b_L_law 407 = .ok (.if_icmp .eq 5, 3) := by decide +kernel
theorem d_L_law_410 : decode b_L_law 410 = .ok (.iconst 0, 1) := by decide +kernel
theorem d_L_law_411 : decode b_L_law 411 = .ok (.ireturn, 1) := by decide +kernel
theorem d_L_law_412 : decode b_L_law 412 = .ok (.iload 5, 2) := by decide +kernel
theorem d_L_law_414 : decode b_L_law 414 = .ok (.ifCond .ne 15, 3) := by decide +kernel
theorem d_L_law_417 : decode b_L_law 417 = .ok (.aload_n 3, 1) := by decide +kernel
theorem d_L_law_418 : decode b_L_law 418 = .ok (.iconst 0, 1) := by decide +kernel
theorem d_L_law_419 : decode b_L_law 419 = .ok (.laload, 1) := by decide +kernel
theorem d_L_law_420 : decode b_L_law 420 = .ok (.iload 6, 2) := by decide +kernel
theorem d_L_law_422 : decode b_L_law 422 = .ok (.i2l, 1) := by decide +kernel
theorem d_L_law_423 : decode b_L_law 423 = .ok (.lcmp, 1) := by decide +kernel
theorem d_L_law_424 : decode b_L_law 424 = .ok (.ifCond .eq 5, 3) := by decide +kernel
theorem d_L_law_427 : decode b_L_law 427 = .ok (.iconst 0, 1) := by decide +kernel
theorem d_L_law_428 : decode b_L_law 428 = .ok (.ireturn, 1) := by decide +kernel
