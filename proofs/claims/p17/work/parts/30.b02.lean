theorem dX10_open_138 : decode cX10_open 138 = .ok (.getfield 317, 3) := by decide +kernel
theorem dX10_open_141 : decode cX10_open 141 = .ok (.aload_n 0, 1) := by decide +kernel
theorem dX10_open_142 : decode cX10_open 142 = .ok (.getfield 320, 3) := by decide +kernel
theorem dX10_open_145 : decode cX10_open 145 = .ok (.invokevirtual 323, 3) := by decide +kernel
theorem dX10_open_148 : decode cX10_open 148 = .ok (.ireturn, 1) := by decide +kernel
theorem dX10_open_149 : decode cX10_open 149 = .ok (.aload_n 0, 1) := by decide +kernel
theorem dX10_open_150 : decode cX10_open 150 = .ok (.iload_n 3, 1) := by decide +kernel
theorem dX10_open_151 : decode cX10_open 151 = .ok (.lload 4, 2) := by decide +kernel
theorem dX10_open_153 : decode cX10_open 153 = .ok (.invokevirtual 335, 3) := by decide +kernel
theorem dX10_open_156 : decode cX10_open 156 = .ok (.ifCond .eq 19, 3) := by decide +kernel
theorem dX10_open_159 : decode cX10_open 159 = .ok (.aload_n 0, 1) := by decide +kernel
theorem dX10_open_160 : decode cX10_open 160 = .ok (.bipush 11, 2) := by decide +kernel
theorem dX10_open_162 : decode cX10_open 162 = .ok (.iload_n 1, 1) := by decide +kernel
theorem dX10_open_163 : decode cX10_open 163 = .ok (.aload_n 0, 1) := by decide +kernel
theorem dX10_open_164 : decode cX10_open 164 = .ok (.getfield 317, 3) := by decide +kernel
theorem dX10_open_167 : decode cX10_open 167 = .ok (.aload_n 0, 1) := by decide +kernel
theorem dX10_open_168 : decode cX10_open 168 = .ok (.getfield 320, 3) := by decide +kernel
theorem dX10_open_171 : decode cX10_open 171 = .ok (.invokevirtual 323, 3) := by decide +kernel
theorem dX10_open_174 : decode cX10_open 174 = .ok (.ireturn, 1) := by decide +kernel
theorem dX10_open_175 : decode cX10_open 175 = .ok (.aload_n 0, 1) := by decide +kernel
theorem dX10_open_176 : decode cX10_open 176 = .ok (.iload_n 1, 1) := by decide +kernel
theorem dX10_open_177 : decode cX10_open 177 = .ok (.iload_n 2, 1) := by decide +kernel
theorem dX10_open_178 : decode cX10_open 178 = .ok (.iadd, 1) := by decide +kernel
theorem dX10_open_179 : decode cX10_open 179 = .ok (.bipush 12, 2) := by decide +kernel
theorem dX10_open_181 : decode cX10_open 181 = .ok (.iadd, 1) := by decide +kernel
theorem dX10_open_182 : decode cX10_open 182 = .ok (.invokevirtual 218, 3) := by decide +kernel
theorem dX10_open_185 : decode cX10_open 185 = .ok (.i2l, 1) := by decide +kernel
theorem dX10_open_186 : decode cX10_open 186 = .ok (.bipush 32, 2) := by decide +kernel
theorem dX10_open_188 : decode cX10_open 188 = .ok (.lshl, 1) := by decide +kernel
theorem dX10_open_189 : decode cX10_open 189 = .ok (.aload_n 0, 1) := by decide +kernel
theorem dX10_open_190 : decode cX10_open 190 = .ok (.iload_n 1, 1) := by decide +kernel
theorem dX10_open_191 : decode cX10_open 191 = .ok (.iload_n 2, 1) := by decide +kernel
theorem dX10_open_192 : decode cX10_open 192 = .ok (.iadd, 1) := by decide +kernel
theorem dX10_open_193 : decode cX10_open 193 = .ok (.bipush 16, 2) := by decide +kernel
theorem dX10_open_195 : decode cX10_open 195 = .ok (.iadd, 1) := by decide +kernel
theorem dX10_open_196 : decode cX10_open 196 = .ok (.invokevirtual 218, 3) := by decide +kernel
theorem dX10_open_199 : decode cX10_open 199 = .ok (.i2l, 1) := by decide +kernel
theorem dX10_open_200 : decode cX10_open 200 = .ok (.ldc2_w 210, 3) := by decide +kernel
theorem dX10_open_203 : decode cX10_open 203 = .ok (.land, 1) := by decide +kernel
theorem dX10_open_204 : decode cX10_open 204 = .ok (.lor, 1) := by decide +kernel
theorem dX10_open_205 : decode cX10_open 205 = .ok (.lstore 6, 2) := by decide +kernel
theorem dX10_open_207 : decode cX10_open 207 = .ok (.lload 6, 2) := by decide +kernel
theorem dX10_open_209 : decode cX10_open 209 = .ok (.aload_n 0, 1) := by decide +kernel
theorem dX10_open_210 : decode cX10_open 210 = .ok (.iload_n 1, 1) := by decide +kernel
theorem dX10_open_211 : decode cX10_open 211 = .ok (.bipush 20, 2) := by decide +kernel
theorem dX10_open_213 : decode cX10_open 213 = .ok (.iadd, 1) := by decide +kernel
theorem dX10_open_214 : decode cX10_open 214 = .ok (.iload_n 2, 1) := by decide +kernel
theorem dX10_open_215 : decode cX10_open 215 = .ok (.bipush 8, 2) := by decide +kernel
theorem dX10_open_217 : decode cX10_open 217 = .ok (.isub, 1) := by decide +kernel
theorem dX10_open_218 : decode cX10_open 218 = .ok (.iload_n 3, 1) := by decide +kernel
theorem dX10_open_219 : decode cX10_open 219 = .ok (.lload 4, 2) := by decide +kernel
theorem dX10_open_221 : decode cX10_open 221 = .ok (.invokevirtual 263, 3) := by decide +kernel
theorem dX10_open_224 : decode cX10_open 224 = .ok (.lcmp, 1) := by decide +kernel
theorem dX10_open_225 : decode cX10_open 225 = .ok (.ifCond .eq 19, 3) := by decide +kernel
theorem dX10_open_228 : decode cX10_open 228 = .ok (.aload_n 0, 1) := by decide +kernel
theorem dX10_open_229 : decode cX10_open 229 = .ok (.bipush 12, 2) := by decide +kernel
theorem dX10_open_231 : decode cX10_open 231 = .ok (.iload_n 1, 1) := by decide +kernel
theorem dX10_open_232 : decode cX10_open 232 = .ok (.aload_n 0, 1) := by decide +kernel
theorem dX10_open_233 : decode cX10_open 233 = .ok (.getfield 317, 3) := by decide +kernel
theorem dX10_open_236 : decode cX10_open 236 = .ok (.aload_n 0, 1) := by decide +kernel
theorem dX10_open_237 : decode cX10_open 237 = .ok (.getfield 320, 3) := by decide +kernel
theorem dX10_open_240 : decode cX10_open 240 = .ok (.invokevirtual 323, 3) := by decide +kernel
theorem dX10_open_243 : decode cX10_open 243 = .ok (.ireturn, 1) := by decide +kernel
theorem dX10_open_244 : decode cX10_open 244 = .ok (.aload_n 0, 1) := by decide +kernel
theorem dX10_open_245 : decode cX10_open 245 = .ok (.iload_n 3, 1) := by decide +kernel
theorem dX10_open_246 : decode cX10_open 246 = .ok (.lload 4, 2) := by decide +kernel
theorem dX10_open_248 : decode cX10_open 248 = .ok (.invokevirtual 338, 3) := by decide +kernel
theorem dX10_open_251 : decode cX10_open 251 = .ok (.iload_n 2, 1) := by decide +kernel
theorem dX10_open_252 : decode cX10_open 252 = .ok (.bipush 16, 2) := by decide +kernel
theorem dX10_open_254 : decode cX10_open 254 = .ok (.isub, 1) := by decide +kernel
theorem dX10_open_255 : decode cX10_open 255 = .ok (.istore 8, 2) := by decide +kernel
theorem dX10_open_257 : decode cX10_open 257 = .ok (.aload_n 0, 1) := by decide +kernel
theorem dX10_open_258 : decode cX10_open 258 = .ok (.iload_n 1, 1) := by decide +kernel
theorem dX10_open_259 : decode cX10_open 259 = .ok (.bipush 28, 2) := by decide +kernel
theorem dX10_open_261 : decode cX10_open 261 = .ok (.iadd, 1) := by decide +kernel
theorem dX10_open_262 : decode cX10_open 262 = .ok (.sipush 6600, 3) := by decide +kernel
theorem dX10_open_265 : decode cX10_open 265 = .ok (.iload 8, 2) := by decide +kernel
theorem dX10_open_267 : decode cX10_open 267 = .ok (.invokevirtual 235, 3) := by decide +kernel
theorem dX10_open_270 : decode cX10_open 270 = .ok (.aload_n 0, 1) := by decide +kernel
theorem dX10_open_271 : decode cX10_open 271 = .ok (.sipush 6600, 3) := by decide +kernel
theorem dX10_open_274 : decode cX10_open 274 = .ok (.iload 8, 2) := by decide +kernel
theorem dX10_open_276 : decode cX10_open 276 = .ok (.iload_n 3, 1) := by decide +kernel
theorem dX10_open_277 : decode cX10_open 277 = .ok (.lload 4, 2) := by decide +kernel
theorem dX10_open_279 : decode cX10_open 279 = .ok (.invokevirtual 259, 3) := by decide +kernel
theorem dX10_open_282 : decode cX10_open 282 = .ok (.aload_n 0, 1) := by decide +kernel
theorem dX10_open_283 : decode cX10_open 283 = .ok (.getfield 7, 3) := by decide +kernel
theorem dX10_open_286 : decode cX10_open 286 = .ok (.sipush 6600, 3) := by decide +kernel
theorem dX10_open_289 : decode cX10_open 289 = .ok (.iload 8, 2) := by decide +kernel
theorem dX10_open_291 : decode cX10_open 291 = .ok (.iadd, 1) := by decide +kernel
theorem dX10_open_292 : decode cX10_open 292 = .ok (.iconst 2, 1) := by decide +kernel
theorem dX10_open_293 : decode cX10_open 293 = .ok (.isub, 1) := by decide +kernel
theorem dX10_open_294 : decode cX10_open 294 = .ok (.iaload, 1) := by decide +kernel
theorem dX10_open_295 : decode cX10_open 295 = .ok (.istore 9, 2) := by decide +kernel
theorem dX10_open_297 : decode cX10_open 297 = .ok (.aload_n 0, 1) := by decide +kernel
theorem dX10_open_298 : decode cX10_open 298 = .ok (.sipush 6600, 3) := by decide +kernel
theorem dX10_open_301 : decode cX10_open 301 = .ok (.iload 8, 2) := by decide +kernel
theorem dX10_open_303 : decode cX10_open 303 = .ok (.iload 9, 2) := by decide +kernel
theorem dX10_open_305 : decode cX10_open 305 = .ok (.invokevirtual 341, 3) := by decide +kernel
theorem dX10_open_308 : decode cX10_open 308 = .ok (.ifCond .ne 6, 3) := by decide +kernel
theorem dX10_open_311 : decode cX10_open 311 = .ok (.bipush 13, 2) := by decide +kernel
theorem dX10_open_313 : decode cX10_open 313 = .ok (.ireturn, 1) := by decide +kernel
theorem dX10_open_314 : decode cX10_open 314 = .ok (.aload_n 0, 1) := by decide +kernel
theorem dX10_open_315 : decode cX10_open 315 = .ok (.getfield 7, 3) := by decide +kernel
theorem dX10_open_318 : decode cX10_open 318 = .ok (.sipush 6600, 3) := by decide +kernel
theorem dX10_open_321 : decode cX10_open 321 = .ok (.iload 8, 2) := by decide +kernel
theorem dX10_open_323 : decode cX10_open 323 = .ok (.iadd, 1) := by decide +kernel
theorem dX10_open_324 : decode cX10_open 324 = .ok (.iconst 1, 1) := by decide +kernel
theorem dX10_open_325 : decode cX10_open 325 = .ok (.isub, 1) := by decide +kernel
theorem dX10_open_326 : decode cX10_open 326 = .ok (.iaload, 1) := by decide +kernel
theorem dX10_open_327 : decode cX10_open 327 = .ok (.istore 10, 2) := by decide +kernel
theorem dX10_open_329 : decode cX10_open 329 = .ok (.iload 10, 2) := by decide +kernel
theorem dX10_open_331 : decode cX10_open 331 = .ok (.iconst 4, 1) := by decide +kernel
theorem dX10_open_332 : decode cX10_open 332 = .ok (.if_icmp .eq 18, 3) := by decide +kernel
theorem dX10_open_335 : decode cX10_open 335 = .ok (.iload 10, 2) := by decide +kernel
theorem dX10_open_337 : decode cX10_open 337 = .ok (.bipush 59, 2) := by decide +kernel
theorem dX10_open_339 : decode cX10_open 339 = .ok (.if_icmp .ne 8, 3) := by decide +kernel
theorem dX10_open_342 : decode cX10_open 342 = .ok (.bipush 14, 2) := by decide +kernel
theorem dX10_open_344 : decode cX10_open 344 = .ok (.goto 5, 3) := by decide +kernel
theorem dX10_open_347 : decode cX10_open 347 = .ok (.bipush 13, 2) := by decide +kernel
theorem dX10_open_349 : decode cX10_open 349 = .ok (.ireturn, 1) := by decide +kernel
theorem dX10_open_350 : decode cX10_open 350 = .ok (.iload 8, 2) := by decide +kernel
theorem dX10_open_352 : decode cX10_open 352 = .ok (.iconst 2, 1) := by decide +kernel
theorem dX10_open_353 : decode cX10_open 353 = .ok (.isub, 1) := by decide +kernel
theorem dX10_open_354 : decode cX10_open 354 = .ok (.iload 9, 2) := by decide +kernel
theorem dX10_open_356 : decode cX10_open 356 = .ok (.isub, 1) := by decide +kernel
theorem dX10_open_357 : decode cX10_open 357 = .ok (.istore 11, 2) := by decide +kernel
theorem dX10_open_359 : decode cX10_open 359 = .ok (.aload_n 0, 1) := by decide +kernel
theorem dX10_open_360 : decode cX10_open 360 = .ok (.sipush 6600, 3) := by decide +kernel
theorem dX10_open_363 : decode cX10_open 363 = .ok (.iload 11, 2) := by decide +kernel
theorem dX10_open_365 : decode cX10_open 365 = .ok (.invokevirtual 225, 3) := by decide +kernel
theorem dX10_open_368 : decode cX10_open 368 = .ok (.ifCond .ne 15, 3) := by decide +kernel
theorem dX10_open_371 : decode cX10_open 371 = .ok (.aload_n 0, 1) := by decide +kernel
theorem dX10_open_372 : decode cX10_open 372 = .ok (.sipush 6600, 3) := by decide +kernel
theorem dX10_open_375 : decode cX10_open 375 = .ok (.invokevirtual 165, 3) := by decide +kernel
theorem dX10_open_378 : decode cX10_open 378 = .ok (.iload 11, 2) := by decide +kernel
theorem dX10_open_380 : decode cX10_open 380 = .ok (.if_icmp .eq 6, 3) := by decide +kernel
theorem dX10_open_383 : decode cX10_open 383 = .ok (.bipush 15, 2) := by decide +kernel
theorem dX10_open_385 : decode cX10_open 385 = .ok (.ireturn, 1) := by decide +kernel
theorem dX10_open_386 : decode cX10_open 386 = .ok (.aload_n 0, 1) := by decide +kernel
theorem dX10_open_387 : decode cX10_open 387 = .ok (.iconst 1, 1) := by decide +kernel
theorem dX10_open_388 : decode cX10_open 388 = .ok (.sipush 6600, 3) := by decide +kernel
theorem dX10_open_391 : decode cX10_open 391 = .ok (.invokevirtual 228, 3) := by decide +kernel
theorem dX10_open_394 : decode cX10_open 394 = .ok (.istore 12, 2) := by decide +kernel
theorem dX10_open_396 : decode cX10_open 396 = .ok (.iload 12, 2) := by decide +kernel
theorem dX10_open_398 : decode cX10_open 398 = .ok (.ifCond .lt 19, 3) := by decide +kernel
theorem dX10_open_401 : decode cX10_open 401 = .ok (.aload_n 0, 1) := by decide +kernel
theorem dX10_open_402 : decode cX10_open 402 = .ok (.getfield 49, 3) := by decide +kernel
theorem dX10_open_405 : decode cX10_open 405 = .ok (.iload 12, 2) := by decide +kernel
theorem dX10_open_407 : decode cX10_open 407 = .ok (.iaload, 1) := by decide +kernel
theorem dX10_open_408 : decode cX10_open 408 = .ok (.aload_n 0, 1) := by decide +kernel
theorem dX10_open_409 : decode cX10_open 409 = .ok (.getfield 60, 3) := by decide +kernel
theorem dX10_open_412 : decode cX10_open 412 = .ok (.iload_n 3, 1) := by decide +kernel
theorem dX10_open_413 : decode cX10_open 413 = .ok (.iaload, 1) := by decide +kernel
theorem dX10_open_414 : decode cX10_open 414 = .ok (.if_icmp .eq 21, 3) := by decide +kernel
theorem dX10_open_417 : decode cX10_open 417 = .ok (.aload_n 0, 1) := by decide +kernel
theorem dX10_open_418 : decode cX10_open 418 = .ok (.bipush 16, 2) := by decide +kernel
theorem dX10_open_420 : decode cX10_open 420 = .ok (.sipush 6600, 3) := by decide +kernel
theorem dX10_open_423 : decode cX10_open 423 = .ok (.aload_n 0, 1) := by decide +kernel
theorem dX10_open_424 : decode cX10_open 424 = .ok (.getfield 317, 3) := by decide +kernel
theorem dX10_open_427 : decode cX10_open 427 = .ok (.aload_n 0, 1) := by decide +kernel
theorem dX10_open_428 : decode cX10_open 428 = .ok (.getfield 320, 3) := by decide +kernel
theorem dX10_open_431 : decode cX10_open 431 = .ok (.invokevirtual 323, 3) := by decide +kernel
theorem dX10_open_434 : decode cX10_open 434 = .ok (.ireturn, 1) := by decide +kernel
theorem dX10_open_435 : decode cX10_open 435 = .ok (.aload_n 0, 1) := by decide +kernel
theorem dX10_open_436 : decode cX10_open 436 = .ok (.sipush 6600, 3) := by decide +kernel
theorem dX10_open_439 : decode cX10_open 439 = .ok (.invokevirtual 344, 3) := by decide +kernel
theorem dX10_open_442 : decode cX10_open 442 = .ok (.ireturn, 1) := by decide +kernel
theorem dX10_peer_0 : decode cX10_peer 0 = .ok (.aload_n 0, 1) := by decide +kernel
theorem dX10_peer_1 : decode cX10_peer 1 = .ok (.iconst 0, 1) := by decide +kernel
theorem dX10_peer_2 : decode cX10_peer 2 = .ok (.putfield 137, 3) := by decide +kernel
theorem dX10_peer_5 : decode cX10_peer 5 = .ok (.aload_n 0, 1) := by decide +kernel
theorem dX10_peer_6 : decode cX10_peer 6 = .ok (.iload_n 1, 1) := by decide +kernel
theorem dX10_peer_7 : decode cX10_peer 7 = .ok (.iconst 0, 1) := by decide +kernel
theorem dX10_peer_8 : decode cX10_peer 8 = .ok (.iconst 3, 1) := by decide +kernel
theorem dX10_peer_9 : decode cX10_peer 9 = .ok (.invokestatic 179, 3) := by decide +kernel
theorem dX10_peer_12 : decode cX10_peer 12 = .ok (.ifCond .ne 7, 3) := by decide +kernel
theorem dX10_peer_15 : decode cX10_peer 15 = .ok (.iconst 1, 1) := by decide +kernel
theorem dX10_peer_16 : decode cX10_peer 16 = .ok (.goto 4, 3) := by decide +kernel
theorem dX10_peer_19 : decode cX10_peer 19 = .ok (.iconst 0, 1) := by decide +kernel
theorem dX10_peer_20 : decode cX10_peer 20 = .ok (.iconst 1, 1) := by decide +kernel
theorem dX10_peer_21 : decode cX10_peer 21 = .ok (.invokevirtual 171, 3) := by decide +kernel
theorem dX10_peer_24 : decode cX10_peer 24 = .ok (.ifCond .eq 5, 3) := by decide +kernel
theorem dX10_peer_27 : decode cX10_peer 27 = .ok (.iconst 0, 1) := by decide +kernel
theorem dX10_peer_28 : decode cX10_peer 28 = .ok (.ireturn, 1) := by decide +kernel
theorem dX10_peer_29 : decode cX10_peer 29 = .ok (.aload_n 0, 1) := by decide +kernel
theorem dX10_peer_30 : decode cX10_peer 30 = .ok (.getfield 22, 3) := by decide +kernel
theorem dX10_peer_33 : decode cX10_peer 33 = .ok (.iload_n 1, 1) := by decide +kernel
theorem dX10_peer_34 : decode cX10_peer 34 = .ok (.iaload, 1) := by decide +kernel
theorem dX10_peer_35 : decode cX10_peer 35 = .ok (.istore_n 3, 1) := by decide +kernel
theorem dX10_peer_36 : decode cX10_peer 36 = .ok (.aload_n 0, 1) := by decide +kernel
theorem dX10_peer_37 : decode cX10_peer 37 = .ok (.getfield 22, 3) := by decide +kernel
theorem dX10_peer_40 : decode cX10_peer 40 = .ok (.iload_n 1, 1) := by decide +kernel
theorem dX10_peer_41 : decode cX10_peer 41 = .ok (.iload_n 2, 1) := by decide +kernel
theorem dX10_peer_42 : decode cX10_peer 42 = .ok (.iastore, 1) := by decide +kernel
theorem dX10_peer_43 : decode cX10_peer 43 = .ok (.iload_n 3, 1) := by decide +kernel
theorem dX10_peer_44 : decode cX10_peer 44 = .ok (.ireturn, 1) := by decide +kernel
theorem dX10_poke_0 : decode cX10_poke 0 = .ok (.aload_n 0, 1) := by decide +kernel
theorem dX10_poke_1 : decode cX10_poke 1 = .ok (.iconst 0, 1) := by decide +kernel
theorem dX10_poke_2 : decode cX10_poke 2 = .ok (.putfield 137, 3) := by decide +kernel
theorem dX10_poke_5 : decode cX10_poke 5 = .ok (.aload_n 0, 1) := by decide +kernel
theorem dX10_poke_6 : decode cX10_poke 6 = .ok (.iload_n 1, 1) := by decide +kernel
theorem dX10_poke_7 : decode cX10_poke 7 = .ok (.iconst 0, 1) := by decide +kernel
theorem dX10_poke_8 : decode cX10_poke 8 = .ok (.aload_n 0, 1) := by decide +kernel
theorem dX10_poke_9 : decode cX10_poke 9 = .ok (.getfield 168, 3) := by decide +kernel
theorem dX10_poke_12 : decode cX10_poke 12 = .ok (.iconst 1, 1) := by decide +kernel
theorem dX10_poke_13 : decode cX10_poke 13 = .ok (.isub, 1) := by decide +kernel
theorem dX10_poke_14 : decode cX10_poke 14 = .ok (.invokestatic 179, 3) := by decide +kernel
theorem dX10_poke_17 : decode cX10_poke 17 = .ok (.ifCond .ne 7, 3) := by decide +kernel
theorem dX10_poke_20 : decode cX10_poke 20 = .ok (.iconst 1, 1) := by decide +kernel
theorem dX10_poke_21 : decode cX10_poke 21 = .ok (.goto 4, 3) := by decide +kernel
theorem dX10_poke_24 : decode cX10_poke 24 = .ok (.iconst 0, 1) := by decide +kernel
theorem dX10_poke_25 : decode cX10_poke 25 = .ok (.iconst 1, 1) := by decide +kernel
theorem dX10_poke_26 : decode cX10_poke 26 = .ok (.invokevirtual 171, 3) := by decide +kernel
theorem dX10_poke_29 : decode cX10_poke 29 = .ok (.ifCond .ne 27, 3) := by decide +kernel
theorem dX10_poke_32 : decode cX10_poke 32 = .ok (.aload_n 0, 1) := by decide +kernel
theorem dX10_poke_33 : decode cX10_poke 33 = .ok (.iload_n 2, 1) := by decide +kernel
theorem dX10_poke_34 : decode cX10_poke 34 = .ok (.iconst 0, 1) := by decide +kernel
theorem dX10_poke_35 : decode cX10_poke 35 = .ok (.sipush 255, 3) := by decide +kernel
theorem dX10_poke_38 : decode cX10_poke 38 = .ok (.invokestatic 179, 3) := by decide +kernel
theorem dX10_poke_41 : decode cX10_poke 41 = .ok (.ifCond .ne 7, 3) := by decide +kernel
theorem dX10_poke_44 : decode cX10_poke 44 = .ok (.iconst 1, 1) := by decide +kernel
theorem dX10_poke_45 : decode cX10_poke 45 = .ok (.goto 4, 3) := by decide +kernel
theorem dX10_poke_48 : decode cX10_poke 48 = .ok (.iconst 0, 1) := by decide +kernel
theorem dX10_poke_49 : decode cX10_poke 49 = .ok (.iconst 2, 1) := by decide +kernel
theorem dX10_poke_50 : decode cX10_poke 50 = .ok (.invokevirtual 171, 3) := by decide +kernel
theorem dX10_poke_53 : decode cX10_poke 53 = .ok (.ifCond .eq 5, 3) := by decide +kernel
theorem dX10_poke_56 : decode cX10_poke 56 = .ok (.iconst 0, 1) := by decide +kernel
theorem dX10_poke_57 : decode cX10_poke 57 = .ok (.ireturn, 1) := by decide +kernel
theorem dX10_poke_58 : decode cX10_poke 58 = .ok (.aload_n 0, 1) := by decide +kernel
theorem dX10_poke_59 : decode cX10_poke 59 = .ok (.getfield 7, 3) := by decide +kernel
theorem dX10_poke_62 : decode cX10_poke 62 = .ok (.iconst 0, 1) := by decide +kernel
theorem dX10_poke_63 : decode cX10_poke 63 = .ok (.iload_n 1, 1) := by decide +kernel
theorem dX10_poke_64 : decode cX10_poke 64 = .ok (.iadd, 1) := by decide +kernel
theorem dX10_poke_65 : decode cX10_poke 65 = .ok (.iaload, 1) := by decide +kernel
theorem dX10_poke_66 : decode cX10_poke 66 = .ok (.istore_n 3, 1) := by decide +kernel
theorem dX10_poke_67 : decode cX10_poke 67 = .ok (.aload_n 0, 1) := by decide +kernel
theorem dX10_poke_68 : decode cX10_poke 68 = .ok (.getfield 7, 3) := by decide +kernel
theorem dX10_poke_71 : decode cX10_poke 71 = .ok (.iconst 0, 1) := by decide +kernel
theorem dX10_poke_72 : decode cX10_poke 72 = .ok (.iload_n 1, 1) := by decide +kernel
theorem dX10_poke_73 : decode cX10_poke 73 = .ok (.iadd, 1) := by decide +kernel
theorem dX10_poke_74 : decode cX10_poke 74 = .ok (.iload_n 2, 1) := by decide +kernel
theorem dX10_poke_75 : decode cX10_poke 75 = .ok (.iastore, 1) := by decide +kernel
theorem dX10_poke_76 : decode cX10_poke 76 = .ok (.iload_n 3, 1) := by decide +kernel
theorem dX10_poke_77 : decode cX10_poke 77 = .ok (.ireturn, 1) := by decide +kernel
theorem dX10_policy_0 : decode cX10_policy 0 = .ok (.aload_n 0, 1) := by decide +kernel
theorem dX10_policy_1 : decode cX10_policy 1 = .ok (.iconst 0, 1) := by decide +kernel
theorem dX10_policy_2 : decode cX10_policy 2 = .ok (.putfield 137, 3) := by decide +kernel
theorem dX10_policy_5 : decode cX10_policy 5 = .ok (.aload_n 0, 1) := by decide +kernel
theorem dX10_policy_6 : decode cX10_policy 6 = .ok (.iload_n 1, 1) := by decide +kernel
theorem dX10_policy_7 : decode cX10_policy 7 = .ok (.iconst 0, 1) := by decide +kernel
theorem dX10_policy_8 : decode cX10_policy 8 = .ok (.iconst 1, 1) := by decide +kernel
theorem dX10_policy_9 : decode cX10_policy 9 = .ok (.invokestatic 179, 3) := by decide +kernel
theorem dX10_policy_12 : decode cX10_policy 12 = .ok (.ifCond .eq 35, 3) := by decide +kernel
theorem dX10_policy_15 : decode cX10_policy 15 = .ok (.iload_n 3, 1) := by decide +kernel
theorem dX10_policy_16 : decode cX10_policy 16 = .ok (.iconst 0, 1) := by decide +kernel
theorem dX10_policy_17 : decode cX10_policy 17 = .ok (.bipush 32, 2) := by decide +kernel
theorem dX10_policy_19 : decode cX10_policy 19 = .ok (.invokestatic 179, 3) := by decide +kernel
theorem dX10_policy_22 : decode cX10_policy 22 = .ok (.ifCond .eq 25, 3) := by decide +kernel
theorem dX10_policy_25 : decode cX10_policy 25 = .ok (.iload 5, 2) := by decide +kernel
theorem dX10_policy_27 : decode cX10_policy 27 = .ok (.iconst 0, 1) := by decide +kernel
theorem dX10_policy_28 : decode cX10_policy 28 = .ok (.bipush 32, 2) := by decide +kernel
theorem dX10_policy_30 : decode cX10_policy 30 = .ok (.invokestatic 179, 3) := by decide +kernel
theorem dX10_policy_33 : decode cX10_policy 33 = .ok (.ifCond .eq 14, 3) := by decide +kernel
theorem dX10_policy_36 : decode cX10_policy 36 = .ok (.iload 6, 2) := by decide +kernel
theorem dX10_policy_38 : decode cX10_policy 38 = .ok (.bipush (-2), 2) := by decide +kernel
theorem dX10_policy_40 : decode cX10_policy 40 = .ok (.iconst 3, 1) := by decide +kernel
theorem dX10_policy_41 : decode cX10_policy 41 = .ok (.invokestatic 179, 3) := by decide +kernel
theorem dX10_policy_44 : decode cX10_policy 44 = .ok (.ifCond .ne 7, 3) := by decide +kernel
theorem dX10_policy_47 : decode cX10_policy 47 = .ok (.iconst 1, 1) := by decide +kernel
theorem dX10_policy_48 : decode cX10_policy 48 = .ok (.goto 4, 3) := by decide +kernel
theorem dX10_policy_51 : decode cX10_policy 51 = .ok (.iconst 0, 1) := by decide +kernel
theorem dX10_policy_52 : decode cX10_policy 52 = .ok (.iconst 1, 1) := by decide +kernel
theorem dX10_policy_53 : decode cX10_policy 53 = .ok (.invokevirtual 171, 3) := by decide +kernel
theorem dX10_policy_56 : decode cX10_policy 56 = .ok (.ifCond .ne 25, 3) := by decide +kernel
theorem dX10_policy_59 : decode cX10_policy 59 = .ok (.aload_n 0, 1) := by decide +kernel
theorem dX10_policy_60 : decode cX10_policy 60 = .ok (.aload_n 0, 1) := by decide +kernel
theorem dX10_policy_61 : decode cX10_policy 61 = .ok (.getfield 197, 3) := by decide +kernel
theorem dX10_policy_64 : decode cX10_policy 64 = .ok (.bipush 24, 2) := by decide +kernel
theorem dX10_policy_66 : decode cX10_policy 66 = .ok (.if_icmp .ne 7, 3) := by decide +kernel
theorem dX10_policy_69 : decode cX10_policy 69 = .ok (.iconst 1, 1) := by decide +kernel
theorem dX10_policy_70 : decode cX10_policy 70 = .ok (.goto 4, 3) := by decide +kernel
theorem dX10_policy_73 : decode cX10_policy 73 = .ok (.iconst 0, 1) := by decide +kernel
theorem dX10_policy_74 : decode cX10_policy 74 = .ok (.iconst 2, 1) := by decide +kernel
theorem dX10_policy_75 : decode cX10_policy 75 = .ok (.invokevirtual 171, 3) := by decide +kernel
theorem dX10_policy_78 : decode cX10_policy 78 = .ok (.ifCond .eq 5, 3) := by decide +kernel
theorem dX10_policy_81 : decode cX10_policy 81 = .ok (.iconst 0, 1) := by decide +kernel
theorem dX10_policy_82 : decode cX10_policy 82 = .ok (.ireturn, 1) := by decide +kernel
theorem dX10_policy_83 : decode cX10_policy 83 = .ok (.aload_n 0, 1) := by decide +kernel
theorem dX10_policy_84 : decode cX10_policy 84 = .ok (.getfield 197, 3) := by decide +kernel
theorem dX10_policy_87 : decode cX10_policy 87 = .ok (.istore 7, 2) := by decide +kernel
theorem dX10_policy_89 : decode cX10_policy 89 = .ok (.aload_n 0, 1) := by decide +kernel
theorem dX10_policy_90 : decode cX10_policy 90 = .ok (.getfield 25, 3) := by decide +kernel
theorem dX10_policy_93 : decode cX10_policy 93 = .ok (.iload 7, 2) := by decide +kernel
theorem dX10_policy_95 : decode cX10_policy 95 = .ok (.iload_n 1, 1) := by decide +kernel
theorem dX10_policy_96 : decode cX10_policy 96 = .ok (.iastore, 1) := by decide +kernel
theorem dX10_policy_97 : decode cX10_policy 97 = .ok (.aload_n 0, 1) := by decide +kernel
theorem dX10_policy_98 : decode cX10_policy 98 = .ok (.getfield 28, 3) := by decide +kernel
theorem dX10_policy_101 : decode cX10_policy 101 = .ok (.iload 7, 2) := by decide +kernel
theorem dX10_policy_103 : decode cX10_policy 103 = .ok (.iload_n 2, 1) := by decide +kernel
theorem dX10_policy_104 : decode cX10_policy 104 = .ok (.iastore, 1) := by decide +kernel
theorem dX10_policy_105 : decode cX10_policy 105 = .ok (.aload_n 0, 1) := by decide +kernel
theorem dX10_policy_106 : decode cX10_policy 106 = .ok (.getfield 31, 3) := by decide +kernel
theorem dX10_policy_109 : decode cX10_policy 109 = .ok (.iload 7, 2) := by decide +kernel
theorem dX10_policy_111 : decode cX10_policy 111 = .ok (.iload_n 3, 1) := by decide +kernel
theorem dX10_policy_112 : decode cX10_policy 112 = .ok (.iastore, 1) := by decide +kernel
theorem dX10_policy_113 : decode cX10_policy 113 = .ok (.aload_n 0, 1) := by decide +kernel
theorem dX10_policy_114 : decode cX10_policy 114 = .ok (.getfield 34, 3) := by decide +kernel
theorem dX10_policy_117 : decode cX10_policy 117 = .ok (.iload 7, 2) := by decide +kernel
theorem dX10_policy_119 : decode cX10_policy 119 = .ok (.iload 4, 2) := by decide +kernel
theorem dX10_policy_121 : decode cX10_policy 121 = .ok (.iastore, 1) := by decide +kernel
theorem dX10_policy_122 : decode cX10_policy 122 = .ok (.aload_n 0, 1) := by decide +kernel
theorem dX10_policy_123 : decode cX10_policy 123 = .ok (.getfield 37, 3) := by decide +kernel
theorem dX10_policy_126 : decode cX10_policy 126 = .ok (.iload 7, 2) := by decide +kernel
theorem dX10_policy_128 : decode cX10_policy 128 = .ok (.iload 5, 2) := by decide +kernel
theorem dX10_policy_130 : decode cX10_policy 130 = .ok (.iastore, 1) := by decide +kernel
theorem dX10_policy_131 : decode cX10_policy 131 = .ok (.aload_n 0, 1) := by decide +kernel
theorem dX10_policy_132 : decode cX10_policy 132 = .ok (.getfield 49, 3) := by decide +kernel
theorem dX10_policy_135 : decode cX10_policy 135 = .ok (.iload 7, 2) := by decide +kernel
theorem dX10_policy_137 : decode cX10_policy 137 = .ok (.iload 6, 2) := by decide +kernel
theorem dX10_policy_139 : decode cX10_policy 139 = .ok (.iastore, 1) := by decide +kernel
theorem dX10_policy_140 : decode cX10_policy 140 = .ok (.aload_n 0, 1) := by decide +kernel
theorem dX10_policy_141 : decode cX10_policy 141 = .ok (.getfield 40, 3) := by decide +kernel
theorem dX10_policy_144 : decode cX10_policy 144 = .ok (.iload 7, 2) := by decide +kernel
theorem dX10_policy_146 : decode cX10_policy 146 = .ok (.aload_n 0, 1) := by decide +kernel
theorem dX10_policy_147 : decode cX10_policy 147 = .ok (.getfield 191, 3) := by decide +kernel
theorem dX10_policy_150 : decode cX10_policy 150 = .ok (.iastore, 1) := by decide +kernel
theorem dX10_policy_151 : decode cX10_policy 151 = .ok (.aload_n 0, 1) := by decide +kernel
theorem dX10_policy_152 : decode cX10_policy 152 = .ok (.getfield 43, 3) := by decide +kernel
theorem dX10_policy_155 : decode cX10_policy 155 = .ok (.iload 7, 2) := by decide +kernel
theorem dX10_policy_157 : decode cX10_policy 157 = .ok (.aload_n 0, 1) := by decide +kernel
theorem dX10_policy_158 : decode cX10_policy 158 = .ok (.getfield 194, 3) := by decide +kernel
theorem dX10_policy_161 : decode cX10_policy 161 = .ok (.iastore, 1) := by decide +kernel
theorem dX10_policy_162 : decode cX10_policy 162 = .ok (.aload_n 0, 1) := by decide +kernel
theorem dX10_policy_163 : decode cX10_policy 163 = .ok (.getfield 46, 3) := by decide +kernel
theorem dX10_policy_166 : decode cX10_policy 166 = .ok (.iload 7, 2) := by decide +kernel
theorem dX10_policy_168 : decode cX10_policy 168 = .ok (.aload_n 0, 1) := by decide +kernel
theorem dX10_policy_169 : decode cX10_policy 169 = .ok (.getfield 53, 3) := by decide +kernel
theorem dX10_policy_172 : decode cX10_policy 172 = .ok (.iastore, 1) := by decide +kernel
theorem dX10_policy_173 : decode cX10_policy 173 = .ok (.aload_n 0, 1) := by decide +kernel
theorem dX10_policy_174 : decode cX10_policy 174 = .ok (.iconst 0, 1) := by decide +kernel
theorem dX10_policy_175 : decode cX10_policy 175 = .ok (.putfield 191, 3) := by decide +kernel
theorem dX10_policy_178 : decode cX10_policy 178 = .ok (.aload_n 0, 1) := by decide +kernel
theorem dX10_policy_179 : decode cX10_policy 179 = .ok (.iconst 0, 1) := by decide +kernel
theorem dX10_policy_180 : decode cX10_policy 180 = .ok (.putfield 194, 3) := by decide +kernel
theorem dX10_policy_183 : decode cX10_policy 183 = .ok (.aload_n 0, 1) := by decide +kernel
theorem dX10_policy_184 : decode cX10_policy 184 = .ok (.ldc 52, 2) := by decide +kernel
theorem dX10_policy_186 : decode cX10_policy 186 = .ok (.putfield 53, 3) := by decide +kernel
theorem dX10_policy_189 : decode cX10_policy 189 = .ok (.aload_n 0, 1) := by decide +kernel
theorem dX10_policy_190 : decode cX10_policy 190 = .ok (.dup, 1) := by decide +kernel
theorem dX10_policy_191 : decode cX10_policy 191 = .ok (.getfield 197, 3) := by decide +kernel
theorem dX10_policy_194 : decode cX10_policy 194 = .ok (.iconst 1, 1) := by decide +kernel
theorem dX10_policy_195 : decode cX10_policy 195 = .ok (.iadd, 1) := by decide +kernel
theorem dX10_policy_196 : decode cX10_policy 196 = .ok (.putfield 197, 3) := by decide +kernel
theorem dX10_policy_199 : decode cX10_policy 199 = .ok (.aload_n 0, 1) := by decide +kernel
theorem dX10_policy_200 : decode cX10_policy 200 = .ok (.getfield 197, 3) := by decide +kernel
theorem dX10_policy_203 : decode cX10_policy 203 = .ok (.ireturn, 1) := by decide +kernel
theorem dX10_policyOf_0 : decode cX10_policyOf 0 = .ok (.iconst 0, 1) := by decide +kernel
theorem dX10_policyOf_1 : decode cX10_policyOf 1 = .ok (.istore_n 3, 1) := by decide +kernel
theorem dX10_policyOf_2 : decode cX10_policyOf 2 = .ok (.iload_n 3, 1) := by decide +kernel
theorem dX10_policyOf_3 : decode cX10_policyOf 3 = .ok (.aload_n 0, 1) := by decide +kernel
theorem dX10_policyOf_4 : decode cX10_policyOf 4 = .ok (.getfield 197, 3) := by decide +kernel
theorem dX10_policyOf_7 : decode cX10_policyOf 7 = .ok (.if_icmp .ge 30, 3) := by decide +kernel
theorem dX10_policyOf_10 : decode cX10_policyOf 10 = .ok (.aload_n 0, 1) := by decide +kernel
theorem dX10_policyOf_11 : decode cX10_policyOf 11 = .ok (.getfield 25, 3) := by decide +kernel
theorem dX10_policyOf_14 : decode cX10_policyOf 14 = .ok (.iload_n 3, 1) := by decide +kernel
theorem dX10_policyOf_15 : decode cX10_policyOf 15 = .ok (.iaload, 1) := by decide +kernel
theorem dX10_policyOf_16 : decode cX10_policyOf 16 = .ok (.iload_n 1, 1) := by decide +kernel
theorem dX10_policyOf_17 : decode cX10_policyOf 17 = .ok (.if_icmp .ne 14, 3) := by decide +kernel
theorem dX10_policyOf_20 : decode cX10_policyOf 20 = .ok (.aload_n 0, 1) := by decide +kernel
theorem dX10_policyOf_21 : decode cX10_policyOf 21 = .ok (.iload_n 3, 1) := by decide +kernel
theorem dX10_policyOf_22 : decode cX10_policyOf 22 = .ok (.iload_n 2, 1) := by decide +kernel
theorem dX10_policyOf_23 : decode cX10_policyOf 23 = .ok (.invokevirtual 221, 3) := by decide +kernel
theorem dX10_policyOf_26 : decode cX10_policyOf 26 = .ok (.ifCond .eq 5, 3) := by decide +kernel
theorem dX10_policyOf_29 : decode cX10_policyOf 29 = .ok (.iload_n 3, 1) := by decide +kernel
theorem dX10_policyOf_30 : decode cX10_policyOf 30 = .ok (.ireturn, 1) := by decide +kernel
theorem dX10_policyOf_31 : decode cX10_policyOf 31 = .ok (.iinc 3 1, 3) := by decide +kernel
theorem dX10_policyOf_34 : decode cX10_policyOf 34 = .ok (.goto (-32), 3) := by decide +kernel
theorem dX10_policyOf_37 : decode cX10_policyOf 37 = .ok (.iconst (-1), 1) := by decide +kernel
theorem dX10_policyOf_38 : decode cX10_policyOf 38 = .ok (.ireturn, 1) := by decide +kernel
theorem dX10_putEight_0 : decode cX10_putEight 0 = .ok (.aload_n 0, 1) := by decide +kernel
theorem dX10_putEight_1 : decode cX10_putEight 1 = .ok (.iload_n 1, 1) := by decide +kernel
theorem dX10_putEight_2 : decode cX10_putEight 2 = .ok (.lload_n 2, 1) := by decide +kernel
theorem dX10_putEight_3 : decode cX10_putEight 3 = .ok (.bipush 32, 2) := by decide +kernel
theorem dX10_putEight_5 : decode cX10_putEight 5 = .ok (.lushr, 1) := by decide +kernel
theorem dX10_putEight_6 : decode cX10_putEight 6 = .ok (.l2i, 1) := by decide +kernel
theorem dX10_putEight_7 : decode cX10_putEight 7 = .ok (.invokevirtual 148, 3) := by decide +kernel
theorem dX10_putEight_10 : decode cX10_putEight 10 = .ok (.aload_n 0, 1) := by decide +kernel
theorem dX10_putEight_11 : decode cX10_putEight 11 = .ok (.iload_n 1, 1) := by decide +kernel
theorem dX10_putEight_12 : decode cX10_putEight 12 = .ok (.iconst 4, 1) := by decide +kernel
theorem dX10_putEight_13 : decode cX10_putEight 13 = .ok (.iadd, 1) := by decide +kernel
theorem dX10_putEight_14 : decode cX10_putEight 14 = .ok (.lload_n 2, 1) := by decide +kernel
theorem dX10_putEight_15 : decode cX10_putEight 15 = .ok (.l2i, 1) := by decide +kernel
theorem dX10_putEight_16 : decode cX10_putEight 16 = .ok (.invokevirtual 148, 3) := by decide +kernel
theorem dX10_putEight_19 : decode cX10_putEight 19 = .ok (.return_, 1) := by decide +kernel
theorem dX10_putFour_0 : decode cX10_putFour 0 = .ok (.aload_n 0, 1) := by decide +kernel
theorem dX10_putFour_1 : decode cX10_putFour 1 = .ok (.iload_n 1, 1) := by decide +kernel
theorem dX10_putFour_2 : decode cX10_putFour 2 = .ok (.iload_n 2, 1) := by decide +kernel
theorem dX10_putFour_3 : decode cX10_putFour 3 = .ok (.bipush 16, 2) := by decide +kernel
theorem dX10_putFour_5 : decode cX10_putFour 5 = .ok (.iushr, 1) := by decide +kernel
theorem dX10_putFour_6 : decode cX10_putFour 6 = .ok (.invokevirtual 144, 3) := by decide +kernel
theorem dX10_putFour_9 : decode cX10_putFour 9 = .ok (.aload_n 0, 1) := by decide +kernel
theorem dX10_putFour_10 : decode cX10_putFour 10 = .ok (.iload_n 1, 1) := by decide +kernel
theorem dX10_putFour_11 : decode cX10_putFour 11 = .ok (.iconst 2, 1) := by decide +kernel
theorem dX10_putFour_12 : decode cX10_putFour 12 = .ok (.iadd, 1) := by decide +kernel
theorem dX10_putFour_13 : decode cX10_putFour 13 = .ok (.iload_n 2, 1) := by decide +kernel
theorem dX10_putFour_14 : decode cX10_putFour 14 = .ok (.ldc 52, 2) := by decide +kernel
theorem dX10_putFour_16 : decode cX10_putFour 16 = .ok (.iand, 1) := by decide +kernel
theorem dX10_putFour_17 : decode cX10_putFour 17 = .ok (.invokevirtual 144, 3) := by decide +kernel
theorem dX10_putFour_20 : decode cX10_putFour 20 = .ok (.return_, 1) := by decide +kernel
theorem dX10_putTwo_0 : decode cX10_putTwo 0 = .ok (.aload_n 0, 1) := by decide +kernel
theorem dX10_putTwo_1 : decode cX10_putTwo 1 = .ok (.getfield 7, 3) := by decide +kernel
theorem dX10_putTwo_4 : decode cX10_putTwo 4 = .ok (.iload_n 1, 1) := by decide +kernel
theorem dX10_putTwo_5 : decode cX10_putTwo 5 = .ok (.iload_n 2, 1) := by decide +kernel
theorem dX10_putTwo_6 : decode cX10_putTwo 6 = .ok (.bipush 8, 2) := by decide +kernel
theorem dX10_putTwo_8 : decode cX10_putTwo 8 = .ok (.ishr, 1) := by decide +kernel
theorem dX10_putTwo_9 : decode cX10_putTwo 9 = .ok (.sipush 255, 3) := by decide +kernel
theorem dX10_putTwo_12 : decode cX10_putTwo 12 = .ok (.iand, 1) := by decide +kernel
theorem dX10_putTwo_13 : decode cX10_putTwo 13 = .ok (.iastore, 1) := by decide +kernel
theorem dX10_putTwo_14 : decode cX10_putTwo 14 = .ok (.aload_n 0, 1) := by decide +kernel
theorem dX10_putTwo_15 : decode cX10_putTwo 15 = .ok (.getfield 7, 3) := by decide +kernel
theorem dX10_putTwo_18 : decode cX10_putTwo 18 = .ok (.iload_n 1, 1) := by decide +kernel
theorem dX10_putTwo_19 : decode cX10_putTwo 19 = .ok (.iconst 1, 1) := by decide +kernel
theorem dX10_putTwo_20 : decode cX10_putTwo 20 = .ok (.iadd, 1) := by decide +kernel
theorem dX10_putTwo_21 : decode cX10_putTwo 21 = .ok (.iload_n 2, 1) := by decide +kernel
theorem dX10_putTwo_22 : decode cX10_putTwo 22 = .ok (.sipush 255, 3) := by decide +kernel
theorem dX10_putTwo_25 : decode cX10_putTwo 25 = .ok (.iand, 1) := by decide +kernel
theorem dX10_putTwo_26 : decode cX10_putTwo 26 = .ok (.iastore, 1) := by decide +kernel
theorem dX10_putTwo_27 : decode cX10_putTwo 27 = .ok (.return_, 1) := by decide +kernel
theorem dX10_refuses_0 : decode cX10_refuses 0 = .ok (.aload_n 0, 1) := by decide +kernel
theorem dX10_refuses_1 : decode cX10_refuses 1 = .ok (.getfield 137, 3) := by decide +kernel
theorem dX10_refuses_4 : decode cX10_refuses 4 = .ok (.ifCond .ne 12, 3) := by decide +kernel
theorem dX10_refuses_7 : decode cX10_refuses 7 = .ok (.iload_n 1, 1) := by decide +kernel
theorem dX10_refuses_8 : decode cX10_refuses 8 = .ok (.ifCond .eq 8, 3) := by decide +kernel
theorem dX10_refuses_11 : decode cX10_refuses 11 = .ok (.aload_n 0, 1) := by decide +kernel
theorem dX10_refuses_12 : decode cX10_refuses 12 = .ok (.iload_n 2, 1) := by decide +kernel
theorem dX10_refuses_13 : decode cX10_refuses 13 = .ok (.putfield 137, 3) := by decide +kernel
theorem dX10_refuses_16 : decode cX10_refuses 16 = .ok (.aload_n 0, 1) := by decide +kernel
theorem dX10_refuses_17 : decode cX10_refuses 17 = .ok (.getfield 137, 3) := by decide +kernel
theorem dX10_refuses_20 : decode cX10_refuses 20 = .ok (.ifCond .le 7, 3) := by decide +kernel
theorem dX10_refuses_23 : decode cX10_refuses 23 = .ok (.iconst 1, 1) := by decide +kernel
theorem dX10_refuses_24 : decode cX10_refuses 24 = .ok (.goto 4, 3) := by decide +kernel
theorem dX10_refuses_27 : decode cX10_refuses 27 = .ok (.iconst 0, 1) := by decide +kernel
theorem dX10_refuses_28 : decode cX10_refuses 28 = .ok (.ireturn, 1) := by decide +kernel
theorem dX10_route_0 : decode cX10_route 0 = .ok (.aload_n 0, 1) := by decide +kernel
theorem dX10_route_1 : decode cX10_route 1 = .ok (.iconst 0, 1) := by decide +kernel
theorem dX10_route_2 : decode cX10_route 2 = .ok (.putfield 137, 3) := by decide +kernel
theorem dX10_route_5 : decode cX10_route 5 = .ok (.aload_n 0, 1) := by decide +kernel
theorem dX10_route_6 : decode cX10_route 6 = .ok (.iload_n 2, 1) := by decide +kernel
theorem dX10_route_7 : decode cX10_route 7 = .ok (.iconst 0, 1) := by decide +kernel
theorem dX10_route_8 : decode cX10_route 8 = .ok (.bipush 32, 2) := by decide +kernel
theorem dX10_route_10 : decode cX10_route 10 = .ok (.invokestatic 179, 3) := by decide +kernel
theorem dX10_route_13 : decode cX10_route 13 = .ok (.ifCond .eq 12, 3) := by decide +kernel
theorem dX10_route_16 : decode cX10_route 16 = .ok (.iload_n 3, 1) := by decide +kernel
theorem dX10_route_17 : decode cX10_route 17 = .ok (.iconst 0, 1) := by decide +kernel
theorem dX10_route_18 : decode cX10_route 18 = .ok (.iconst 1, 1) := by decide +kernel
theorem dX10_route_19 : decode cX10_route 19 = .ok (.invokestatic 179, 3) := by decide +kernel
theorem dX10_route_22 : decode cX10_route 22 = .ok (.ifCond .ne 7, 3) := by decide +kernel
theorem dX10_route_25 : decode cX10_route 25 = .ok (.iconst 1, 1) := by decide +kernel
theorem dX10_route_26 : decode cX10_route 26 = .ok (.goto 4, 3) := by decide +kernel
theorem dX10_route_29 : decode cX10_route 29 = .ok (.iconst 0, 1) := by decide +kernel
theorem dX10_route_30 : decode cX10_route 30 = .ok (.iconst 1, 1) := by decide +kernel
theorem dX10_route_31 : decode cX10_route 31 = .ok (.invokevirtual 171, 3) := by decide +kernel
theorem dX10_route_34 : decode cX10_route 34 = .ok (.ifCond .ne 25, 3) := by decide +kernel
theorem dX10_route_37 : decode cX10_route 37 = .ok (.aload_n 0, 1) := by decide +kernel
theorem dX10_route_38 : decode cX10_route 38 = .ok (.aload_n 0, 1) := by decide +kernel
theorem dX10_route_39 : decode cX10_route 39 = .ok (.getfield 188, 3) := by decide +kernel
theorem dX10_route_42 : decode cX10_route 42 = .ok (.bipush 16, 2) := by decide +kernel
theorem dX10_route_44 : decode cX10_route 44 = .ok (.if_icmp .ne 7, 3) := by decide +kernel
theorem dX10_route_47 : decode cX10_route 47 = .ok (.iconst 1, 1) := by decide +kernel
theorem dX10_route_48 : decode cX10_route 48 = .ok (.goto 4, 3) := by decide +kernel
theorem dX10_route_51 : decode cX10_route 51 = .ok (.iconst 0, 1) := by decide +kernel
theorem dX10_route_52 : decode cX10_route 52 = .ok (.iconst 2, 1) := by decide +kernel
theorem dX10_route_53 : decode cX10_route 53 = .ok (.invokevirtual 171, 3) := by decide +kernel
theorem dX10_route_56 : decode cX10_route 56 = .ok (.ifCond .eq 5, 3) := by decide +kernel
theorem dX10_route_59 : decode cX10_route 59 = .ok (.iconst 0, 1) := by decide +kernel
theorem dX10_route_60 : decode cX10_route 60 = .ok (.ireturn, 1) := by decide +kernel
theorem dX10_route_61 : decode cX10_route 61 = .ok (.aload_n 0, 1) := by decide +kernel
theorem dX10_route_62 : decode cX10_route 62 = .ok (.getfield 13, 3) := by decide +kernel
theorem dX10_route_65 : decode cX10_route 65 = .ok (.aload_n 0, 1) := by decide +kernel
theorem dX10_route_66 : decode cX10_route 66 = .ok (.getfield 188, 3) := by decide +kernel
theorem dX10_route_69 : decode cX10_route 69 = .ok (.iload_n 1, 1) := by decide +kernel
theorem dX10_route_70 : decode cX10_route 70 = .ok (.iastore, 1) := by decide +kernel
theorem dX10_route_71 : decode cX10_route 71 = .ok (.aload_n 0, 1) := by decide +kernel
theorem dX10_route_72 : decode cX10_route 72 = .ok (.getfield 16, 3) := by decide +kernel
theorem dX10_route_75 : decode cX10_route 75 = .ok (.aload_n 0, 1) := by decide +kernel
theorem dX10_route_76 : decode cX10_route 76 = .ok (.getfield 188, 3) := by decide +kernel
theorem dX10_route_79 : decode cX10_route 79 = .ok (.iload_n 2, 1) := by decide +kernel
theorem dX10_route_80 : decode cX10_route 80 = .ok (.iastore, 1) := by decide +kernel
theorem dX10_route_81 : decode cX10_route 81 = .ok (.aload_n 0, 1) := by decide +kernel
theorem dX10_route_82 : decode cX10_route 82 = .ok (.getfield 19, 3) := by decide +kernel
theorem dX10_route_85 : decode cX10_route 85 = .ok (.aload_n 0, 1) := by decide +kernel
theorem dX10_route_86 : decode cX10_route 86 = .ok (.getfield 188, 3) := by decide +kernel
theorem dX10_route_89 : decode cX10_route 89 = .ok (.iload_n 3, 1) := by decide +kernel
theorem dX10_route_90 : decode cX10_route 90 = .ok (.iastore, 1) := by decide +kernel
theorem dX10_route_91 : decode cX10_route 91 = .ok (.aload_n 0, 1) := by decide +kernel
theorem dX10_route_92 : decode cX10_route 92 = .ok (.dup, 1) := by decide +kernel
theorem dX10_route_93 : decode cX10_route 93 = .ok (.getfield 188, 3) := by decide +kernel
theorem dX10_route_96 : decode cX10_route 96 = .ok (.iconst 1, 1) := by decide +kernel
theorem dX10_route_97 : decode cX10_route 97 = .ok (.iadd, 1) := by decide +kernel
theorem dX10_route_98 : decode cX10_route 98 = .ok (.putfield 188, 3) := by decide +kernel
theorem dX10_route_101 : decode cX10_route 101 = .ok (.aload_n 0, 1) := by decide +kernel
theorem dX10_route_102 : decode cX10_route 102 = .ok (.getfield 188, 3) := by decide +kernel
theorem dX10_route_105 : decode cX10_route 105 = .ok (.ireturn, 1) := by decide +kernel
theorem dX10_routeOf_0 : decode cX10_routeOf 0 = .ok (.iconst (-1), 1) := by decide +kernel
theorem dX10_routeOf_1 : decode cX10_routeOf 1 = .ok (.istore_n 2, 1) := by decide +kernel
theorem dX10_routeOf_2 : decode cX10_routeOf 2 = .ok (.iconst 0, 1) := by decide +kernel
theorem dX10_routeOf_3 : decode cX10_routeOf 3 = .ok (.istore_n 3, 1) := by decide +kernel
theorem dX10_routeOf_4 : decode cX10_routeOf 4 = .ok (.iload_n 3, 1) := by decide +kernel
theorem dX10_routeOf_5 : decode cX10_routeOf 5 = .ok (.aload_n 0, 1) := by decide +kernel
theorem dX10_routeOf_6 : decode cX10_routeOf 6 = .ok (.getfield 188, 3) := by decide +kernel
theorem dX10_routeOf_9 : decode cX10_routeOf 9 = .ok (.if_icmp .ge 49, 3) := by decide +kernel
theorem dX10_routeOf_12 : decode cX10_routeOf 12 = .ok (.iload_n 1, 1) := by decide +kernel
theorem dX10_routeOf_13 : decode cX10_routeOf 13 = .ok (.aload_n 0, 1) := by decide +kernel
theorem dX10_routeOf_14 : decode cX10_routeOf 14 = .ok (.getfield 13, 3) := by decide +kernel
theorem dX10_routeOf_17 : decode cX10_routeOf 17 = .ok (.iload_n 3, 1) := by decide +kernel
theorem dX10_routeOf_18 : decode cX10_routeOf 18 = .ok (.iaload, 1) := by decide +kernel
theorem dX10_routeOf_19 : decode cX10_routeOf 19 = .ok (.aload_n 0, 1) := by decide +kernel
theorem dX10_routeOf_20 : decode cX10_routeOf 20 = .ok (.getfield 16, 3) := by decide +kernel
theorem dX10_routeOf_23 : decode cX10_routeOf 23 = .ok (.iload_n 3, 1) := by decide +kernel
theorem dX10_routeOf_24 : decode cX10_routeOf 24 = .ok (.iaload, 1) := by decide +kernel
theorem dX10_routeOf_25 : decode cX10_routeOf 25 = .ok (.invokestatic 212, 3) := by decide +kernel
theorem dX10_routeOf_28 : decode cX10_routeOf 28 = .ok (.ifCond .eq 24, 3) := by decide +kernel
theorem dX10_routeOf_31 : decode cX10_routeOf 31 = .ok (.iload_n 2, 1) := by decide +kernel
theorem dX10_routeOf_32 : decode cX10_routeOf 32 = .ok (.ifCond .lt 18, 3) := by decide +kernel
theorem dX10_routeOf_35 : decode cX10_routeOf 35 = .ok (.aload_n 0, 1) := by decide +kernel
theorem dX10_routeOf_36 : decode cX10_routeOf 36 = .ok (.getfield 16, 3) := by decide +kernel
theorem dX10_routeOf_39 : decode cX10_routeOf 39 = .ok (.iload_n 3, 1) := by decide +kernel
theorem dX10_routeOf_40 : decode cX10_routeOf 40 = .ok (.iaload, 1) := by decide +kernel
theorem dX10_routeOf_41 : decode cX10_routeOf 41 = .ok (.aload_n 0, 1) := by decide +kernel
theorem dX10_routeOf_42 : decode cX10_routeOf 42 = .ok (.getfield 16, 3) := by decide +kernel
theorem dX10_routeOf_45 : decode cX10_routeOf 45 = .ok (.iload_n 2, 1) := by decide +kernel
theorem dX10_routeOf_46 : decode cX10_routeOf 46 = .ok (.iaload, 1) := by decide +kernel
theorem dX10_routeOf_47 : decode cX10_routeOf 47 = .ok (.if_icmp .lt 5, 3) := by decide +kernel
theorem dX10_routeOf_50 : decode cX10_routeOf 50 = .ok (.iload_n 3, 1) := by decide +kernel
theorem dX10_routeOf_51 : decode cX10_routeOf 51 = .ok (.istore_n 2, 1) := by decide +kernel
theorem dX10_routeOf_52 : decode cX10_routeOf 52 = .ok (.iinc 3 1, 3) := by decide +kernel
theorem dX10_routeOf_55 : decode cX10_routeOf 55 = .ok (.goto (-51), 3) := by decide +kernel
theorem dX10_routeOf_58 : decode cX10_routeOf 58 = .ok (.iload_n 2, 1) := by decide +kernel
theorem dX10_routeOf_59 : decode cX10_routeOf 59 = .ok (.ifCond .ge 7, 3) := by decide +kernel
theorem dX10_routeOf_62 : decode cX10_routeOf 62 = .ok (.iconst (-1), 1) := by decide +kernel
theorem dX10_routeOf_63 : decode cX10_routeOf 63 = .ok (.goto 9, 3) := by decide +kernel
theorem dX10_routeOf_66 : decode cX10_routeOf 66 = .ok (.aload_n 0, 1) := by decide +kernel
theorem dX10_routeOf_67 : decode cX10_routeOf 67 = .ok (.getfield 19, 3) := by decide +kernel
theorem dX10_routeOf_70 : decode cX10_routeOf 70 = .ok (.iload_n 2, 1) := by decide +kernel
theorem dX10_routeOf_71 : decode cX10_routeOf 71 = .ok (.iaload, 1) := by decide +kernel
theorem dX10_routeOf_72 : decode cX10_routeOf 72 = .ok (.ireturn, 1) := by decide +kernel
theorem dX10_routed_0 : decode cX10_routed 0 = .ok (.aload_n 0, 1) := by decide +kernel
theorem dX10_routed_1 : decode cX10_routed 1 = .ok (.iconst 0, 1) := by decide +kernel
theorem dX10_routed_2 : decode cX10_routed 2 = .ok (.putfield 137, 3) := by decide +kernel
theorem dX10_routed_5 : decode cX10_routed 5 = .ok (.aload_n 0, 1) := by decide +kernel
theorem dX10_routed_6 : decode cX10_routed 6 = .ok (.iload_n 1, 1) := by decide +kernel
theorem dX10_routed_7 : decode cX10_routed 7 = .ok (.invokevirtual 232, 3) := by decide +kernel
theorem dX10_routed_10 : decode cX10_routed 10 = .ok (.ireturn, 1) := by decide +kernel
theorem dX10_seal_0 : decode cX10_seal 0 = .ok (.aload_n 0, 1) := by decide +kernel
theorem dX10_seal_1 : decode cX10_seal 1 = .ok (.iconst 0, 1) := by decide +kernel
theorem dX10_seal_2 : decode cX10_seal 2 = .ok (.putfield 137, 3) := by decide +kernel
theorem dX10_seal_5 : decode cX10_seal 5 = .ok (.aload_n 0, 1) := by decide +kernel
theorem dX10_seal_6 : decode cX10_seal 6 = .ok (.iload_n 2, 1) := by decide +kernel
theorem dX10_seal_7 : decode cX10_seal 7 = .ok (.iconst 0, 1) := by decide +kernel
theorem dX10_seal_8 : decode cX10_seal 8 = .ok (.iconst 3, 1) := by decide +kernel
theorem dX10_seal_9 : decode cX10_seal 9 = .ok (.invokestatic 179, 3) := by decide +kernel
theorem dX10_seal_12 : decode cX10_seal 12 = .ok (.ifCond .ne 7, 3) := by decide +kernel
theorem dX10_seal_15 : decode cX10_seal 15 = .ok (.iconst 1, 1) := by decide +kernel
theorem dX10_seal_16 : decode cX10_seal 16 = .ok (.goto 4, 3) := by decide +kernel
theorem dX10_seal_19 : decode cX10_seal 19 = .ok (.iconst 0, 1) := by decide +kernel
theorem dX10_seal_20 : decode cX10_seal 20 = .ok (.iconst 1, 1) := by decide +kernel
theorem dX10_seal_21 : decode cX10_seal 21 = .ok (.invokevirtual 171, 3) := by decide +kernel
theorem dX10_seal_24 : decode cX10_seal 24 = .ok (.ifCond .ne 43, 3) := by decide +kernel
theorem dX10_seal_27 : decode cX10_seal 27 = .ok (.aload_n 0, 1) := by decide +kernel
theorem dX10_seal_28 : decode cX10_seal 28 = .ok (.iload_n 1, 1) := by decide +kernel
theorem dX10_seal_29 : decode cX10_seal 29 = .ok (.iconst 0, 1) := by decide +kernel
theorem dX10_seal_30 : decode cX10_seal 30 = .ok (.iconst 1, 1) := by decide +kernel
theorem dX10_seal_31 : decode cX10_seal 31 = .ok (.invokestatic 179, 3) := by decide +kernel
theorem dX10_seal_34 : decode cX10_seal 34 = .ok (.ifCond .eq 21, 3) := by decide +kernel
theorem dX10_seal_37 : decode cX10_seal 37 = .ok (.iload_n 3, 1) := by decide +kernel
theorem dX10_seal_38 : decode cX10_seal 38 = .ok (.sipush 256, 3) := by decide +kernel
theorem dX10_seal_41 : decode cX10_seal 41 = .ok (.if_icmp .lt 14, 3) := by decide +kernel
theorem dX10_seal_44 : decode cX10_seal 44 = .ok (.iload 9, 2) := by decide +kernel
theorem dX10_seal_46 : decode cX10_seal 46 = .ok (.iconst 1, 1) := by decide +kernel
theorem dX10_seal_47 : decode cX10_seal 47 = .ok (.ldc 203, 2) := by decide +kernel
theorem dX10_seal_49 : decode cX10_seal 49 = .ok (.invokestatic 179, 3) := by decide +kernel
theorem dX10_seal_52 : decode cX10_seal 52 = .ok (.ifCond .ne 7, 3) := by decide +kernel
theorem dX10_seal_55 : decode cX10_seal 55 = .ok (.iconst 1, 1) := by decide +kernel
theorem dX10_seal_56 : decode cX10_seal 56 = .ok (.goto 4, 3) := by decide +kernel
theorem dX10_seal_59 : decode cX10_seal 59 = .ok (.iconst 0, 1) := by decide +kernel
theorem dX10_seal_60 : decode cX10_seal 60 = .ok (.iconst 2, 1) := by decide +kernel
theorem dX10_seal_61 : decode cX10_seal 61 = .ok (.invokevirtual 171, 3) := by decide +kernel
theorem dX10_seal_64 : decode cX10_seal 64 = .ok (.ifCond .eq 5, 3) := by decide +kernel
theorem dX10_seal_67 : decode cX10_seal 67 = .ok (.iconst 0, 1) := by decide +kernel
theorem dX10_seal_68 : decode cX10_seal 68 = .ok (.ireturn, 1) := by decide +kernel
theorem dX10_seal_69 : decode cX10_seal 69 = .ok (.aload_n 0, 1) := by decide +kernel
theorem dX10_seal_70 : decode cX10_seal 70 = .ok (.aload_n 0, 1) := by decide +kernel
theorem dX10_seal_71 : decode cX10_seal 71 = .ok (.getfield 200, 3) := by decide +kernel
theorem dX10_seal_74 : decode cX10_seal 74 = .ok (.bipush 16, 2) := by decide +kernel
theorem dX10_seal_76 : decode cX10_seal 76 = .ok (.if_icmp .eq 16, 3) := by decide +kernel
theorem dX10_seal_79 : decode cX10_seal 79 = .ok (.iload_n 1, 1) := by decide +kernel
theorem dX10_seal_80 : decode cX10_seal 80 = .ok (.iconst 1, 1) := by decide +kernel
theorem dX10_seal_81 : decode cX10_seal 81 = .ok (.if_icmp .ne 15, 3) := by decide +kernel
theorem dX10_seal_84 : decode cX10_seal 84 = .ok (.aload_n 0, 1) := by decide +kernel
theorem dX10_seal_85 : decode cX10_seal 85 = .ok (.iload_n 3, 1) := by decide +kernel
theorem dX10_seal_86 : decode cX10_seal 86 = .ok (.invokevirtual 204, 3) := by decide +kernel
theorem dX10_seal_89 : decode cX10_seal 89 = .ok (.ifCond .lt 7, 3) := by decide +kernel
theorem dX10_seal_92 : decode cX10_seal 92 = .ok (.iconst 1, 1) := by decide +kernel
theorem dX10_seal_93 : decode cX10_seal 93 = .ok (.goto 4, 3) := by decide +kernel
theorem dX10_seal_96 : decode cX10_seal 96 = .ok (.iconst 0, 1) := by decide +kernel
theorem dX10_seal_97 : decode cX10_seal 97 = .ok (.iconst 3, 1) := by decide +kernel
theorem dX10_seal_98 : decode cX10_seal 98 = .ok (.invokevirtual 171, 3) := by decide +kernel
theorem dX10_seal_101 : decode cX10_seal 101 = .ok (.ifCond .eq 5, 3) := by decide +kernel
theorem dX10_seal_104 : decode cX10_seal 104 = .ok (.iconst 0, 1) := by decide +kernel
theorem dX10_seal_105 : decode cX10_seal 105 = .ok (.ireturn, 1) := by decide +kernel
theorem dX10_seal_106 : decode cX10_seal 106 = .ok (.aload_n 0, 1) := by decide +kernel
theorem dX10_seal_107 : decode cX10_seal 107 = .ok (.getfield 200, 3) := by decide +kernel
theorem dX10_seal_110 : decode cX10_seal 110 = .ok (.istore 10, 2) := by decide +kernel
theorem dX10_seal_112 : decode cX10_seal 112 = .ok (.aload_n 0, 1) := by decide +kernel
theorem dX10_seal_113 : decode cX10_seal 113 = .ok (.getfield 57, 3) := by decide +kernel
theorem dX10_seal_116 : decode cX10_seal 116 = .ok (.iload 10, 2) := by decide +kernel
theorem dX10_seal_118 : decode cX10_seal 118 = .ok (.iload_n 1, 1) := by decide +kernel
theorem dX10_seal_119 : decode cX10_seal 119 = .ok (.iastore, 1) := by decide +kernel
theorem dX10_seal_120 : decode cX10_seal 120 = .ok (.aload_n 0, 1) := by decide +kernel
theorem dX10_seal_121 : decode cX10_seal 121 = .ok (.getfield 60, 3) := by decide +kernel
theorem dX10_seal_124 : decode cX10_seal 124 = .ok (.iload 10, 2) := by decide +kernel
theorem dX10_seal_126 : decode cX10_seal 126 = .ok (.iload_n 2, 1) := by decide +kernel
theorem dX10_seal_127 : decode cX10_seal 127 = .ok (.iastore, 1) := by decide +kernel
theorem dX10_seal_128 : decode cX10_seal 128 = .ok (.aload_n 0, 1) := by decide +kernel
theorem dX10_seal_129 : decode cX10_seal 129 = .ok (.getfield 63, 3) := by decide +kernel
theorem dX10_seal_132 : decode cX10_seal 132 = .ok (.iload 10, 2) := by decide +kernel
theorem dX10_seal_134 : decode cX10_seal 134 = .ok (.iload_n 3, 1) := by decide +kernel
theorem dX10_seal_135 : decode cX10_seal 135 = .ok (.iastore, 1) := by decide +kernel
theorem dX10_seal_136 : decode cX10_seal 136 = .ok (.aload_n 0, 1) := by decide +kernel
theorem dX10_seal_137 : decode cX10_seal 137 = .ok (.getfield 66, 3) := by decide +kernel
theorem dX10_seal_140 : decode cX10_seal 140 = .ok (.iload 10, 2) := by decide +kernel
theorem dX10_seal_142 : decode cX10_seal 142 = .ok (.lload 4, 2) := by decide +kernel
theorem dX10_seal_144 : decode cX10_seal 144 = .ok (.lastore, 1) := by decide +kernel
theorem dX10_seal_145 : decode cX10_seal 145 = .ok (.aload_n 0, 1) := by decide +kernel
theorem dX10_seal_146 : decode cX10_seal 146 = .ok (.getfield 70, 3) := by decide +kernel
theorem dX10_seal_149 : decode cX10_seal 149 = .ok (.iload 10, 2) := by decide +kernel
theorem dX10_seal_151 : decode cX10_seal 151 = .ok (.lload 6, 2) := by decide +kernel
theorem dX10_seal_153 : decode cX10_seal 153 = .ok (.lastore, 1) := by decide +kernel
theorem dX10_seal_154 : decode cX10_seal 154 = .ok (.aload_n 0, 1) := by decide +kernel
theorem dX10_seal_155 : decode cX10_seal 155 = .ok (.getfield 73, 3) := by decide +kernel
theorem dX10_seal_158 : decode cX10_seal 158 = .ok (.iload 10, 2) := by decide +kernel
theorem dX10_seal_160 : decode cX10_seal 160 = .ok (.iload 8, 2) := by decide +kernel
theorem dX10_seal_162 : decode cX10_seal 162 = .ok (.bastore, 1) := by decide +kernel
theorem dX10_seal_163 : decode cX10_seal 163 = .ok (.aload_n 0, 1) := by decide +kernel
theorem dX10_seal_164 : decode cX10_seal 164 = .ok (.getfield 77, 3) := by decide +kernel
theorem dX10_seal_167 : decode cX10_seal 167 = .ok (.iload 10, 2) := by decide +kernel
theorem dX10_seal_169 : decode cX10_seal 169 = .ok (.iload 9, 2) := by decide +kernel
theorem dX10_seal_171 : decode cX10_seal 171 = .ok (.iastore, 1) := by decide +kernel
theorem dX10_seal_172 : decode cX10_seal 172 = .ok (.aload_n 0, 1) := by decide +kernel
theorem dX10_seal_173 : decode cX10_seal 173 = .ok (.getfield 80, 3) := by decide +kernel
theorem dX10_seal_176 : decode cX10_seal 176 = .ok (.iload 10, 2) := by decide +kernel
theorem dX10_seal_178 : decode cX10_seal 178 = .ok (.iconst 0, 1) := by decide +kernel
theorem dX10_seal_179 : decode cX10_seal 179 = .ok (.bastore, 1) := by decide +kernel
theorem dX10_seal_180 : decode cX10_seal 180 = .ok (.aload_n 0, 1) := by decide +kernel
theorem dX10_seal_181 : decode cX10_seal 181 = .ok (.getfield 83, 3) := by decide +kernel
theorem dX10_seal_184 : decode cX10_seal 184 = .ok (.iload 10, 2) := by decide +kernel
theorem dX10_seal_186 : decode cX10_seal 186 = .ok (.lconst 0, 1) := by decide +kernel
theorem dX10_seal_187 : decode cX10_seal 187 = .ok (.lastore, 1) := by decide +kernel
theorem dX10_seal_188 : decode cX10_seal 188 = .ok (.aload_n 0, 1) := by decide +kernel
theorem dX10_seal_189 : decode cX10_seal 189 = .ok (.getfield 86, 3) := by decide +kernel
theorem dX10_seal_192 : decode cX10_seal 192 = .ok (.iload 10, 2) := by decide +kernel
theorem dX10_seal_194 : decode cX10_seal 194 = .ok (.lconst 0, 1) := by decide +kernel
theorem dX10_seal_195 : decode cX10_seal 195 = .ok (.lastore, 1) := by decide +kernel
theorem dX10_seal_196 : decode cX10_seal 196 = .ok (.aload_n 0, 1) := by decide +kernel
theorem dX10_seal_197 : decode cX10_seal 197 = .ok (.dup, 1) := by decide +kernel
theorem dX10_seal_198 : decode cX10_seal 198 = .ok (.getfield 200, 3) := by decide +kernel
theorem dX10_seal_201 : decode cX10_seal 201 = .ok (.iconst 1, 1) := by decide +kernel
theorem dX10_seal_202 : decode cX10_seal 202 = .ok (.iadd, 1) := by decide +kernel
theorem dX10_seal_203 : decode cX10_seal 203 = .ok (.putfield 200, 3) := by decide +kernel
theorem dX10_seal_206 : decode cX10_seal 206 = .ok (.iload 10, 2) := by decide +kernel
theorem dX10_seal_208 : decode cX10_seal 208 = .ok (.ireturn, 1) := by decide +kernel
theorem dX10_sealFor_0 : decode cX10_sealFor 0 = .ok (.aload_n 0, 1) := by decide +kernel
theorem dX10_sealFor_1 : decode cX10_sealFor 1 = .ok (.getfield 200, 3) := by decide +kernel
theorem dX10_sealFor_4 : decode cX10_sealFor 4 = .ok (.iconst 1, 1) := by decide +kernel
theorem dX10_sealFor_5 : decode cX10_sealFor 5 = .ok (.isub, 1) := by decide +kernel
theorem dX10_sealFor_6 : decode cX10_sealFor 6 = .ok (.istore_n 2, 1) := by decide +kernel
theorem dX10_sealFor_7 : decode cX10_sealFor 7 = .ok (.iload_n 2, 1) := by decide +kernel
theorem dX10_sealFor_8 : decode cX10_sealFor 8 = .ok (.ifCond .lt 68, 3) := by decide +kernel
theorem dX10_sealFor_11 : decode cX10_sealFor 11 = .ok (.aload_n 0, 1) := by decide +kernel
theorem dX10_sealFor_12 : decode cX10_sealFor 12 = .ok (.getfield 73, 3) := by decide +kernel
theorem dX10_sealFor_15 : decode cX10_sealFor 15 = .ok (.iload_n 2, 1) := by decide +kernel
theorem dX10_sealFor_16 : decode cX10_sealFor 16 = .ok (.baload, 1) := by decide +kernel
theorem dX10_sealFor_17 : decode cX10_sealFor 17 = .ok (.ifCond .eq 9, 3) := by decide +kernel
theorem dX10_sealFor_20 : decode cX10_sealFor 20 = .ok (.ldc2_w 273, 3) := by decide +kernel
theorem dX10_sealFor_23 : decode cX10_sealFor 23 = .ok (.goto 6, 3) := by decide +kernel
theorem dX10_sealFor_26 : decode cX10_sealFor 26 = .ok (.ldc2_w 210, 3) := by decide +kernel
theorem dX10_sealFor_29 : decode cX10_sealFor 29 = .ok (.lstore_n 3, 1) := by decide +kernel
theorem dX10_sealFor_30 : decode cX10_sealFor 30 = .ok (.aload_n 0, 1) := by decide +kernel
theorem dX10_sealFor_31 : decode cX10_sealFor 31 = .ok (.getfield 57, 3) := by decide +kernel
theorem dX10_sealFor_34 : decode cX10_sealFor 34 = .ok (.iload_n 2, 1) := by decide +kernel
theorem dX10_sealFor_35 : decode cX10_sealFor 35 = .ok (.iaload, 1) := by decide +kernel
theorem dX10_sealFor_36 : decode cX10_sealFor 36 = .ok (.ifCond .ne 34, 3) := by decide +kernel
theorem dX10_sealFor_39 : decode cX10_sealFor 39 = .ok (.aload_n 0, 1) := by decide +kernel
theorem dX10_sealFor_40 : decode cX10_sealFor 40 = .ok (.getfield 60, 3) := by decide +kernel
theorem dX10_sealFor_43 : decode cX10_sealFor 43 = .ok (.iload_n 2, 1) := by decide +kernel
theorem dX10_sealFor_44 : decode cX10_sealFor 44 = .ok (.iaload, 1) := by decide +kernel
theorem dX10_sealFor_45 : decode cX10_sealFor 45 = .ok (.iload_n 1, 1) := by decide +kernel
theorem dX10_sealFor_46 : decode cX10_sealFor 46 = .ok (.if_icmp .ne 24, 3) := by decide +kernel
theorem dX10_sealFor_49 : decode cX10_sealFor 49 = .ok (.aload_n 0, 1) := by decide +kernel
theorem dX10_sealFor_50 : decode cX10_sealFor 50 = .ok (.iload_n 2, 1) := by decide +kernel
theorem dX10_sealFor_51 : decode cX10_sealFor 51 = .ok (.invokevirtual 207, 3) := by decide +kernel
theorem dX10_sealFor_54 : decode cX10_sealFor 54 = .ok (.ifCond .ne 16, 3) := by decide +kernel
theorem dX10_sealFor_57 : decode cX10_sealFor 57 = .ok (.aload_n 0, 1) := by decide +kernel
theorem dX10_sealFor_58 : decode cX10_sealFor 58 = .ok (.getfield 83, 3) := by decide +kernel
theorem dX10_sealFor_61 : decode cX10_sealFor 61 = .ok (.iload_n 2, 1) := by decide +kernel
theorem dX10_sealFor_62 : decode cX10_sealFor 62 = .ok (.laload, 1) := by decide +kernel
theorem dX10_sealFor_63 : decode cX10_sealFor 63 = .ok (.lload_n 3, 1) := by decide +kernel
theorem dX10_sealFor_64 : decode cX10_sealFor 64 = .ok (.lcmp, 1) := by decide +kernel
theorem dX10_sealFor_65 : decode cX10_sealFor 65 = .ok (.ifCond .eq 5, 3) := by decide +kernel
theorem dX10_sealFor_68 : decode cX10_sealFor 68 = .ok (.iload_n 2, 1) := by decide +kernel
theorem dX10_sealFor_69 : decode cX10_sealFor 69 = .ok (.ireturn, 1) := by decide +kernel
theorem dX10_sealFor_70 : decode cX10_sealFor 70 = .ok (.iinc 2 (-1), 3) := by decide +kernel
theorem dX10_sealFor_73 : decode cX10_sealFor 73 = .ok (.goto (-66), 3) := by decide +kernel
theorem dX10_sealFor_76 : decode cX10_sealFor 76 = .ok (.iconst (-1), 1) := by decide +kernel
theorem dX10_sealFor_77 : decode cX10_sealFor 77 = .ok (.ireturn, 1) := by decide +kernel
theorem dX10_sealIt_0 : decode cX10_sealIt 0 = .ok (.aload_n 0, 1) := by decide +kernel
theorem dX10_sealIt_1 : decode cX10_sealIt 1 = .ok (.iload_n 1, 1) := by decide +kernel
theorem dX10_sealIt_2 : decode cX10_sealIt 2 = .ok (.invokevirtual 165, 3) := by decide +kernel
theorem dX10_sealIt_5 : decode cX10_sealIt 5 = .ok (.istore 5, 2) := by decide +kernel
theorem dX10_sealIt_7 : decode cX10_sealIt 7 = .ok (.iload 5, 2) := by decide +kernel
theorem dX10_sealIt_9 : decode cX10_sealIt 9 = .ok (.invokestatic 256, 3) := by decide +kernel
theorem dX10_sealIt_12 : decode cX10_sealIt 12 = .ok (.istore 6, 2) := by decide +kernel
theorem dX10_sealIt_14 : decode cX10_sealIt 14 = .ok (.sipush 4428, 3) := by decide +kernel
theorem dX10_sealIt_17 : decode cX10_sealIt 17 = .ok (.istore 7, 2) := by decide +kernel
theorem dX10_sealIt_19 : decode cX10_sealIt 19 = .ok (.iload 5, 2) := by decide +kernel
theorem dX10_sealIt_21 : decode cX10_sealIt 21 = .ok (.iload 6, 2) := by decide +kernel
theorem dX10_sealIt_23 : decode cX10_sealIt 23 = .ok (.iadd, 1) := by decide +kernel
theorem dX10_sealIt_24 : decode cX10_sealIt 24 = .ok (.iconst 2, 1) := by decide +kernel
theorem dX10_sealIt_25 : decode cX10_sealIt 25 = .ok (.iadd, 1) := by decide +kernel
theorem dX10_sealIt_26 : decode cX10_sealIt 26 = .ok (.istore 8, 2) := by decide +kernel
theorem dX10_sealIt_28 : decode cX10_sealIt 28 = .ok (.aload_n 0, 1) := by decide +kernel
theorem dX10_sealIt_29 : decode cX10_sealIt 29 = .ok (.iload_n 1, 1) := by decide +kernel
theorem dX10_sealIt_30 : decode cX10_sealIt 30 = .ok (.iload 7, 2) := by decide +kernel
theorem dX10_sealIt_32 : decode cX10_sealIt 32 = .ok (.iload 5, 2) := by decide +kernel
theorem dX10_sealIt_34 : decode cX10_sealIt 34 = .ok (.invokevirtual 235, 3) := by decide +kernel
theorem dX10_sealIt_37 : decode cX10_sealIt 37 = .ok (.iconst 1, 1) := by decide +kernel
theorem dX10_sealIt_38 : decode cX10_sealIt 38 = .ok (.istore 9, 2) := by decide +kernel
theorem dX10_sealIt_40 : decode cX10_sealIt 40 = .ok (.iload 9, 2) := by decide +kernel
theorem dX10_sealIt_42 : decode cX10_sealIt 42 = .ok (.iload 6, 2) := by decide +kernel
theorem dX10_sealIt_44 : decode cX10_sealIt 44 = .ok (.if_icmp .gt 26, 3) := by decide +kernel
theorem dX10_sealIt_47 : decode cX10_sealIt 47 = .ok (.aload_n 0, 1) := by decide +kernel
theorem dX10_sealIt_48 : decode cX10_sealIt 48 = .ok (.getfield 7, 3) := by decide +kernel
theorem dX10_sealIt_51 : decode cX10_sealIt 51 = .ok (.iload 7, 2) := by decide +kernel
theorem dX10_sealIt_53 : decode cX10_sealIt 53 = .ok (.iload 5, 2) := by decide +kernel
theorem dX10_sealIt_55 : decode cX10_sealIt 55 = .ok (.iadd, 1) := by decide +kernel
theorem dX10_sealIt_56 : decode cX10_sealIt 56 = .ok (.iload 9, 2) := by decide +kernel
theorem dX10_sealIt_58 : decode cX10_sealIt 58 = .ok (.iadd, 1) := by decide +kernel
theorem dX10_sealIt_59 : decode cX10_sealIt 59 = .ok (.iconst 1, 1) := by decide +kernel
theorem dX10_sealIt_60 : decode cX10_sealIt 60 = .ok (.isub, 1) := by decide +kernel
theorem dX10_sealIt_61 : decode cX10_sealIt 61 = .ok (.iload 9, 2) := by decide +kernel
theorem dX10_sealIt_63 : decode cX10_sealIt 63 = .ok (.iastore, 1) := by decide +kernel
theorem dX10_sealIt_64 : decode cX10_sealIt 64 = .ok (.iinc 9 1, 3) := by decide +kernel
theorem dX10_sealIt_67 : decode cX10_sealIt 67 = .ok (.goto (-27), 3) := by decide +kernel
theorem dX10_sealIt_70 : decode cX10_sealIt 70 = .ok (.aload_n 0, 1) := by decide +kernel
theorem dX10_sealIt_71 : decode cX10_sealIt 71 = .ok (.getfield 7, 3) := by decide +kernel
theorem dX10_sealIt_74 : decode cX10_sealIt 74 = .ok (.iload 7, 2) := by decide +kernel
theorem dX10_sealIt_76 : decode cX10_sealIt 76 = .ok (.iload 5, 2) := by decide +kernel
theorem dX10_sealIt_78 : decode cX10_sealIt 78 = .ok (.iadd, 1) := by decide +kernel
theorem dX10_sealIt_79 : decode cX10_sealIt 79 = .ok (.iload 6, 2) := by decide +kernel
theorem dX10_sealIt_81 : decode cX10_sealIt 81 = .ok (.iadd, 1) := by decide +kernel
theorem dX10_sealIt_82 : decode cX10_sealIt 82 = .ok (.iload 6, 2) := by decide +kernel
theorem dX10_sealIt_84 : decode cX10_sealIt 84 = .ok (.iastore, 1) := by decide +kernel
theorem dX10_sealIt_85 : decode cX10_sealIt 85 = .ok (.aload_n 0, 1) := by decide +kernel
theorem dX10_sealIt_86 : decode cX10_sealIt 86 = .ok (.getfield 7, 3) := by decide +kernel
theorem dX10_sealIt_89 : decode cX10_sealIt 89 = .ok (.iload 7, 2) := by decide +kernel
theorem dX10_sealIt_91 : decode cX10_sealIt 91 = .ok (.iload 5, 2) := by decide +kernel
theorem dX10_sealIt_93 : decode cX10_sealIt 93 = .ok (.iadd, 1) := by decide +kernel
theorem dX10_sealIt_94 : decode cX10_sealIt 94 = .ok (.iload 6, 2) := by decide +kernel
theorem dX10_sealIt_96 : decode cX10_sealIt 96 = .ok (.iadd, 1) := by decide +kernel
theorem dX10_sealIt_97 : decode cX10_sealIt 97 = .ok (.iconst 1, 1) := by decide +kernel
theorem dX10_sealIt_98 : decode cX10_sealIt 98 = .ok (.iadd, 1) := by decide +kernel
theorem dX10_sealIt_99 : decode cX10_sealIt 99 = .ok (.iconst 4, 1) := by decide +kernel
theorem dX10_sealIt_100 : decode cX10_sealIt 100 = .ok (.iastore, 1) := by decide +kernel
theorem dX10_sealIt_101 : decode cX10_sealIt 101 = .ok (.aload_n 0, 1) := by decide +kernel
theorem dX10_sealIt_102 : decode cX10_sealIt 102 = .ok (.sipush 4420, 3) := by decide +kernel
theorem dX10_sealIt_105 : decode cX10_sealIt 105 = .ok (.aload_n 0, 1) := by decide +kernel
theorem dX10_sealIt_106 : decode cX10_sealIt 106 = .ok (.getfield 63, 3) := by decide +kernel
theorem dX10_sealIt_109 : decode cX10_sealIt 109 = .ok (.iload_n 2, 1) := by decide +kernel
theorem dX10_sealIt_110 : decode cX10_sealIt 110 = .ok (.iaload, 1) := by decide +kernel
theorem dX10_sealIt_111 : decode cX10_sealIt 111 = .ok (.invokevirtual 148, 3) := by decide +kernel
theorem dX10_sealIt_114 : decode cX10_sealIt 114 = .ok (.aload_n 0, 1) := by decide +kernel
theorem dX10_sealIt_115 : decode cX10_sealIt 115 = .ok (.sipush 4424, 3) := by decide +kernel
theorem dX10_sealIt_118 : decode cX10_sealIt 118 = .ok (.lload_n 3, 1) := by decide +kernel
theorem dX10_sealIt_119 : decode cX10_sealIt 119 = .ok (.l2i, 1) := by decide +kernel
theorem dX10_sealIt_120 : decode cX10_sealIt 120 = .ok (.invokevirtual 148, 3) := by decide +kernel
theorem dX10_sealIt_123 : decode cX10_sealIt 123 = .ok (.aload_n 0, 1) := by decide +kernel
theorem dX10_sealIt_124 : decode cX10_sealIt 124 = .ok (.iload 7, 2) := by decide +kernel
theorem dX10_sealIt_126 : decode cX10_sealIt 126 = .ok (.iload 8, 2) := by decide +kernel
theorem dX10_sealIt_128 : decode cX10_sealIt 128 = .ok (.iload_n 2, 1) := by decide +kernel
theorem dX10_sealIt_129 : decode cX10_sealIt 129 = .ok (.lload_n 3, 1) := by decide +kernel
theorem dX10_sealIt_130 : decode cX10_sealIt 130 = .ok (.invokevirtual 259, 3) := by decide +kernel
theorem dX10_sealIt_133 : decode cX10_sealIt 133 = .ok (.aload_n 0, 1) := by decide +kernel
theorem dX10_sealIt_134 : decode cX10_sealIt 134 = .ok (.iload 7, 2) := by decide +kernel
theorem dX10_sealIt_136 : decode cX10_sealIt 136 = .ok (.iload 8, 2) := by decide +kernel
theorem dX10_sealIt_138 : decode cX10_sealIt 138 = .ok (.iadd, 1) := by decide +kernel
theorem dX10_sealIt_139 : decode cX10_sealIt 139 = .ok (.aload_n 0, 1) := by decide +kernel
theorem dX10_sealIt_140 : decode cX10_sealIt 140 = .ok (.sipush 4420, 3) := by decide +kernel
theorem dX10_sealIt_143 : decode cX10_sealIt 143 = .ok (.bipush 8, 2) := by decide +kernel
theorem dX10_sealIt_145 : decode cX10_sealIt 145 = .ok (.iload 8, 2) := by decide +kernel
theorem dX10_sealIt_147 : decode cX10_sealIt 147 = .ok (.iadd, 1) := by decide +kernel
theorem dX10_sealIt_148 : decode cX10_sealIt 148 = .ok (.iload_n 2, 1) := by decide +kernel
theorem dX10_sealIt_149 : decode cX10_sealIt 149 = .ok (.lload_n 3, 1) := by decide +kernel
theorem dX10_sealIt_150 : decode cX10_sealIt 150 = .ok (.invokevirtual 263, 3) := by decide +kernel
theorem dX10_sealIt_153 : decode cX10_sealIt 153 = .ok (.invokevirtual 175, 3) := by decide +kernel
theorem dX10_sealIt_156 : decode cX10_sealIt 156 = .ok (.aload_n 0, 1) := by decide +kernel
theorem dX10_sealIt_157 : decode cX10_sealIt 157 = .ok (.getfield 7, 3) := by decide +kernel
theorem dX10_sealIt_160 : decode cX10_sealIt 160 = .ok (.sipush 4400, 3) := by decide +kernel
theorem dX10_sealIt_163 : decode cX10_sealIt 163 = .ok (.bipush 69, 2) := by decide +kernel
theorem dX10_sealIt_165 : decode cX10_sealIt 165 = .ok (.iastore, 1) := by decide +kernel
theorem dX10_sealIt_166 : decode cX10_sealIt 166 = .ok (.aload_n 0, 1) := by decide +kernel
theorem dX10_sealIt_167 : decode cX10_sealIt 167 = .ok (.getfield 7, 3) := by decide +kernel
theorem dX10_sealIt_170 : decode cX10_sealIt 170 = .ok (.sipush 4401, 3) := by decide +kernel
theorem dX10_sealIt_173 : decode cX10_sealIt 173 = .ok (.aload_n 0, 1) := by decide +kernel
theorem dX10_sealIt_174 : decode cX10_sealIt 174 = .ok (.getfield 7, 3) := by decide +kernel
theorem dX10_sealIt_177 : decode cX10_sealIt 177 = .ok (.iload_n 1, 1) := by decide +kernel
theorem dX10_sealIt_178 : decode cX10_sealIt 178 = .ok (.iconst 1, 1) := by decide +kernel
theorem dX10_sealIt_179 : decode cX10_sealIt 179 = .ok (.iadd, 1) := by decide +kernel
theorem dX10_sealIt_180 : decode cX10_sealIt 180 = .ok (.iaload, 1) := by decide +kernel
theorem dX10_sealIt_181 : decode cX10_sealIt 181 = .ok (.iastore, 1) := by decide +kernel
theorem dX10_sealIt_182 : decode cX10_sealIt 182 = .ok (.aload_n 0, 1) := by decide +kernel
theorem dX10_sealIt_183 : decode cX10_sealIt 183 = .ok (.sipush 4402, 3) := by decide +kernel
theorem dX10_sealIt_186 : decode cX10_sealIt 186 = .ok (.bipush 36, 2) := by decide +kernel
theorem dX10_sealIt_188 : decode cX10_sealIt 188 = .ok (.iload 8, 2) := by decide +kernel
theorem dX10_sealIt_190 : decode cX10_sealIt 190 = .ok (.iadd, 1) := by decide +kernel
theorem dX10_sealIt_191 : decode cX10_sealIt 191 = .ok (.invokevirtual 144, 3) := by decide +kernel
theorem dX10_sealIt_194 : decode cX10_sealIt 194 = .ok (.aload_n 0, 1) := by decide +kernel
theorem dX10_sealIt_195 : decode cX10_sealIt 195 = .ok (.sipush 4404, 3) := by decide +kernel
theorem dX10_sealIt_198 : decode cX10_sealIt 198 = .ok (.aload_n 0, 1) := by decide +kernel
theorem dX10_sealIt_199 : decode cX10_sealIt 199 = .ok (.getfield 267, 3) := by decide +kernel
theorem dX10_sealIt_202 : decode cX10_sealIt 202 = .ok (.ldc 52, 2) := by decide +kernel
theorem dX10_sealIt_204 : decode cX10_sealIt 204 = .ok (.iand, 1) := by decide +kernel
theorem dX10_sealIt_205 : decode cX10_sealIt 205 = .ok (.invokevirtual 144, 3) := by decide +kernel
theorem dX10_sealIt_208 : decode cX10_sealIt 208 = .ok (.aload_n 0, 1) := by decide +kernel
theorem dX10_sealIt_209 : decode cX10_sealIt 209 = .ok (.sipush 4406, 3) := by decide +kernel
theorem dX10_sealIt_212 : decode cX10_sealIt 212 = .ok (.aload_n 0, 1) := by decide +kernel
theorem dX10_sealIt_213 : decode cX10_sealIt 213 = .ok (.iload_n 1, 1) := by decide +kernel
theorem dX10_sealIt_214 : decode cX10_sealIt 214 = .ok (.invokevirtual 270, 3) := by decide +kernel
theorem dX10_sealIt_217 : decode cX10_sealIt 217 = .ok (.ifCond .eq 9, 3) := by decide +kernel
theorem dX10_sealIt_220 : decode cX10_sealIt 220 = .ok (.sipush 16384, 3) := by decide +kernel
theorem dX10_sealIt_223 : decode cX10_sealIt 223 = .ok (.goto 4, 3) := by decide +kernel
theorem dX10_sealIt_226 : decode cX10_sealIt 226 = .ok (.iconst 0, 1) := by decide +kernel
theorem dX10_sealIt_227 : decode cX10_sealIt 227 = .ok (.invokevirtual 144, 3) := by decide +kernel
theorem dX10_sealIt_230 : decode cX10_sealIt 230 = .ok (.aload_n 0, 1) := by decide +kernel
theorem dX10_sealIt_231 : decode cX10_sealIt 231 = .ok (.getfield 7, 3) := by decide +kernel
theorem dX10_sealIt_234 : decode cX10_sealIt 234 = .ok (.sipush 4408, 3) := by decide +kernel
theorem dX10_sealIt_237 : decode cX10_sealIt 237 = .ok (.bipush 64, 2) := by decide +kernel
theorem dX10_sealIt_239 : decode cX10_sealIt 239 = .ok (.iastore, 1) := by decide +kernel
theorem dX10_sealIt_240 : decode cX10_sealIt 240 = .ok (.aload_n 0, 1) := by decide +kernel
theorem dX10_sealIt_241 : decode cX10_sealIt 241 = .ok (.getfield 7, 3) := by decide +kernel
theorem dX10_sealIt_244 : decode cX10_sealIt 244 = .ok (.sipush 4409, 3) := by decide +kernel
theorem dX10_sealIt_247 : decode cX10_sealIt 247 = .ok (.bipush 50, 2) := by decide +kernel
theorem dX10_sealIt_249 : decode cX10_sealIt 249 = .ok (.iastore, 1) := by decide +kernel
theorem dX10_sealIt_250 : decode cX10_sealIt 250 = .ok (.aload_n 0, 1) := by decide +kernel
theorem dX10_sealIt_251 : decode cX10_sealIt 251 = .ok (.sipush 4412, 3) := by decide +kernel
theorem dX10_sealIt_254 : decode cX10_sealIt 254 = .ok (.aload_n 0, 1) := by decide +kernel
theorem dX10_sealIt_255 : decode cX10_sealIt 255 = .ok (.getfield 134, 3) := by decide +kernel
theorem dX10_sealIt_258 : decode cX10_sealIt 258 = .ok (.invokevirtual 148, 3) := by decide +kernel
theorem dX10_sealIt_261 : decode cX10_sealIt 261 = .ok (.aload_n 0, 1) := by decide +kernel
theorem dX10_sealIt_262 : decode cX10_sealIt 262 = .ok (.sipush 4416, 3) := by decide +kernel
theorem dX10_sealIt_265 : decode cX10_sealIt 265 = .ok (.aload_n 0, 1) := by decide +kernel
theorem dX10_sealIt_266 : decode cX10_sealIt 266 = .ok (.getfield 22, 3) := by decide +kernel
theorem dX10_sealIt_269 : decode cX10_sealIt 269 = .ok (.aload_n 0, 1) := by decide +kernel
theorem dX10_sealIt_270 : decode cX10_sealIt 270 = .ok (.getfield 60, 3) := by decide +kernel
theorem dX10_sealIt_273 : decode cX10_sealIt 273 = .ok (.iload_n 2, 1) := by decide +kernel
theorem dX10_sealIt_274 : decode cX10_sealIt 274 = .ok (.iaload, 1) := by decide +kernel
theorem dX10_sealIt_275 : decode cX10_sealIt 275 = .ok (.iaload, 1) := by decide +kernel
theorem dX10_sealIt_276 : decode cX10_sealIt 276 = .ok (.invokevirtual 148, 3) := by decide +kernel
theorem dX10_sealIt_279 : decode cX10_sealIt 279 = .ok (.aload_n 0, 1) := by decide +kernel
theorem dX10_sealIt_280 : decode cX10_sealIt 280 = .ok (.sipush 4400, 3) := by decide +kernel
theorem dX10_sealIt_283 : decode cX10_sealIt 283 = .ok (.invokevirtual 184, 3) := by decide +kernel
theorem dX10_sealIt_286 : decode cX10_sealIt 286 = .ok (.aload_n 0, 1) := by decide +kernel
theorem dX10_sealIt_287 : decode cX10_sealIt 287 = .ok (.dup, 1) := by decide +kernel
theorem dX10_sealIt_288 : decode cX10_sealIt 288 = .ok (.getfield 267, 3) := by decide +kernel
theorem dX10_sealIt_291 : decode cX10_sealIt 291 = .ok (.iconst 1, 1) := by decide +kernel
theorem dX10_sealIt_292 : decode cX10_sealIt 292 = .ok (.iadd, 1) := by decide +kernel
theorem dX10_sealIt_293 : decode cX10_sealIt 293 = .ok (.putfield 267, 3) := by decide +kernel
theorem dX10_sealIt_296 : decode cX10_sealIt 296 = .ok (.return_, 1) := by decide +kernel
theorem dX10_sealNamed_0 : decode cX10_sealNamed 0 = .ok (.iconst 0, 1) := by decide +kernel
theorem dX10_sealNamed_1 : decode cX10_sealNamed 1 = .ok (.istore_n 2, 1) := by decide +kernel
theorem dX10_sealNamed_2 : decode cX10_sealNamed 2 = .ok (.iload_n 2, 1) := by decide +kernel
theorem dX10_sealNamed_3 : decode cX10_sealNamed 3 = .ok (.aload_n 0, 1) := by decide +kernel
theorem dX10_sealNamed_4 : decode cX10_sealNamed 4 = .ok (.getfield 200, 3) := by decide +kernel
theorem dX10_sealNamed_7 : decode cX10_sealNamed 7 = .ok (.if_icmp .ge 31, 3) := by decide +kernel
theorem dX10_sealNamed_10 : decode cX10_sealNamed 10 = .ok (.aload_n 0, 1) := by decide +kernel
theorem dX10_sealNamed_11 : decode cX10_sealNamed 11 = .ok (.getfield 57, 3) := by decide +kernel
theorem dX10_sealNamed_14 : decode cX10_sealNamed 14 = .ok (.iload_n 2, 1) := by decide +kernel
theorem dX10_sealNamed_15 : decode cX10_sealNamed 15 = .ok (.iaload, 1) := by decide +kernel
theorem dX10_sealNamed_16 : decode cX10_sealNamed 16 = .ok (.iconst 1, 1) := by decide +kernel
theorem dX10_sealNamed_17 : decode cX10_sealNamed 17 = .ok (.if_icmp .ne 15, 3) := by decide +kernel
theorem dX10_sealNamed_20 : decode cX10_sealNamed 20 = .ok (.aload_n 0, 1) := by decide +kernel
theorem dX10_sealNamed_21 : decode cX10_sealNamed 21 = .ok (.getfield 63, 3) := by decide +kernel
theorem dX10_sealNamed_24 : decode cX10_sealNamed 24 = .ok (.iload_n 2, 1) := by decide +kernel
theorem dX10_sealNamed_25 : decode cX10_sealNamed 25 = .ok (.iaload, 1) := by decide +kernel
theorem dX10_sealNamed_26 : decode cX10_sealNamed 26 = .ok (.iload_n 1, 1) := by decide +kernel
theorem dX10_sealNamed_27 : decode cX10_sealNamed 27 = .ok (.if_icmp .ne 5, 3) := by decide +kernel
theorem dX10_sealNamed_30 : decode cX10_sealNamed 30 = .ok (.iload_n 2, 1) := by decide +kernel
theorem dX10_sealNamed_31 : decode cX10_sealNamed 31 = .ok (.ireturn, 1) := by decide +kernel
theorem dX10_sealNamed_32 : decode cX10_sealNamed 32 = .ok (.iinc 2 1, 3) := by decide +kernel
theorem dX10_sealNamed_35 : decode cX10_sealNamed 35 = .ok (.goto (-33), 3) := by decide +kernel
theorem dX10_sealNamed_38 : decode cX10_sealNamed 38 = .ok (.iconst (-1), 1) := by decide +kernel
