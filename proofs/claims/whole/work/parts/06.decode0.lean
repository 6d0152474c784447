theorem d_0_0 : decode (mB 0) 0 = .ok ((.new 7), 3) := by decide +kernel
theorem d_0_3 : decode (mB 0) 3 = .ok (.dup, 1) := by decide +kernel
theorem d_0_4 : decode (mB 0) 4 = .ok ((.invokespecial 9), 3) := by decide +kernel
theorem d_0_7 : decode (mB 0) 7 = .ok ((.astore_n 1), 1) := by decide +kernel
theorem d_0_8 : decode (mB 0) 8 = .ok ((.new 10), 3) := by decide +kernel
theorem d_0_11 : decode (mB 0) 11 = .ok (.dup, 1) := by decide +kernel
theorem d_0_12 : decode (mB 0) 12 = .ok ((.invokespecial 12), 3) := by decide +kernel
theorem d_0_15 : decode (mB 0) 15 = .ok ((.astore_n 2), 1) := by decide +kernel
theorem d_0_16 : decode (mB 0) 16 = .ok ((.iconst 0), 1) := by decide +kernel
theorem d_0_17 : decode (mB 0) 17 = .ok ((.istore_n 3), 1) := by decide +kernel
theorem d_0_18 : decode (mB 0) 18 = .ok ((.iload_n 3), 1) := by decide +kernel
theorem d_0_19 : decode (mB 0) 19 = .ok ((.aload_n 0), 1) := by decide +kernel
theorem d_0_20 : decode (mB 0) 20 = .ok (.arraylength, 1) := by decide +kernel
theorem d_0_21 : decode (mB 0) 21 = .ok ((.bipush 6), 2) := by decide +kernel
theorem d_0_23 : decode (mB 0) 23 = .ok (.isub, 1) := by decide +kernel
theorem d_0_24 : decode (mB 0) 24 = .ok ((.if_icmp .gt 1045), 3) := by decide +kernel
theorem d_0_27 : decode (mB 0) 27 = .ok ((.aload_n 0), 1) := by decide +kernel
theorem d_0_28 : decode (mB 0) 28 = .ok ((.iload_n 3), 1) := by decide +kernel
theorem d_0_29 : decode (mB 0) 29 = .ok (.iaload, 1) := by decide +kernel
theorem d_0_30 : decode (mB 0) 30 = .ok ((.bipush 31), 2) := by decide +kernel
theorem d_0_32 : decode (mB 0) 32 = .ok (.iand, 1) := by decide +kernel
theorem d_0_33 : decode (mB 0) 33 = .ok ((.tableswitch 1030 0 26 #[123, 186, 199, 212, 225, 258, 307, 330, 363, 396, 409, 452, 511, 544, 577, 610, 653, 686, 729, 742, 755, 794, 874, 928, 961, 984, 1007]), 123) := by decide +kernel
theorem d_0_156 : decode (mB 0) 156 = .ok ((.aload_n 1), 1) := by decide +kernel
theorem d_0_157 : decode (mB 0) 157 = .ok ((.aload_n 0), 1) := by decide +kernel
theorem d_0_158 : decode (mB 0) 158 = .ok ((.iload_n 3), 1) := by decide +kernel
theorem d_0_159 : decode (mB 0) 159 = .ok ((.iconst 1), 1) := by decide +kernel
theorem d_0_160 : decode (mB 0) 160 = .ok (.iadd, 1) := by decide +kernel
theorem d_0_161 : decode (mB 0) 161 = .ok (.iaload, 1) := by decide +kernel
theorem d_0_162 : decode (mB 0) 162 = .ok ((.aload_n 0), 1) := by decide +kernel
theorem d_0_163 : decode (mB 0) 163 = .ok ((.iload_n 3), 1) := by decide +kernel
theorem d_0_164 : decode (mB 0) 164 = .ok ((.iconst 2), 1) := by decide +kernel
theorem d_0_165 : decode (mB 0) 165 = .ok (.iadd, 1) := by decide +kernel
theorem d_0_166 : decode (mB 0) 166 = .ok (.iaload, 1) := by decide +kernel
theorem d_0_167 : decode (mB 0) 167 = .ok (.i2l, 1) := by decide +kernel
theorem d_0_168 : decode (mB 0) 168 = .ok ((.bipush 32), 2) := by decide +kernel
theorem d_0_170 : decode (mB 0) 170 = .ok (.lshl, 1) := by decide +kernel
theorem d_0_171 : decode (mB 0) 171 = .ok ((.aload_n 0), 1) := by decide +kernel
theorem d_0_172 : decode (mB 0) 172 = .ok ((.iload_n 3), 1) := by decide +kernel
theorem d_0_173 : decode (mB 0) 173 = .ok ((.iconst 3), 1) := by decide +kernel
theorem d_0_174 : decode (mB 0) 174 = .ok (.iadd, 1) := by decide +kernel
theorem d_0_175 : decode (mB 0) 175 = .ok (.iaload, 1) := by decide +kernel
theorem d_0_176 : decode (mB 0) 176 = .ok (.i2l, 1) := by decide +kernel
theorem d_0_177 : decode (mB 0) 177 = .ok ((.ldc2_w 13), 3) := by decide +kernel
theorem d_0_180 : decode (mB 0) 180 = .ok (.land, 1) := by decide +kernel
theorem d_0_181 : decode (mB 0) 181 = .ok (.lor, 1) := by decide +kernel
theorem d_0_182 : decode (mB 0) 182 = .ok ((.invokevirtual 15), 3) := by decide +kernel
theorem d_0_185 : decode (mB 0) 185 = .ok ((.aload_n 2), 1) := by decide +kernel
theorem d_0_186 : decode (mB 0) 186 = .ok ((.aload_n 0), 1) := by decide +kernel
theorem d_0_187 : decode (mB 0) 187 = .ok ((.iload_n 3), 1) := by decide +kernel
theorem d_0_188 : decode (mB 0) 188 = .ok ((.iconst 1), 1) := by decide +kernel
theorem d_0_189 : decode (mB 0) 189 = .ok (.iadd, 1) := by decide +kernel
theorem d_0_190 : decode (mB 0) 190 = .ok (.iaload, 1) := by decide +kernel
theorem d_0_191 : decode (mB 0) 191 = .ok ((.aload_n 0), 1) := by decide +kernel
theorem d_0_192 : decode (mB 0) 192 = .ok ((.iload_n 3), 1) := by decide +kernel
theorem d_0_193 : decode (mB 0) 193 = .ok ((.iconst 2), 1) := by decide +kernel
theorem d_0_194 : decode (mB 0) 194 = .ok (.iadd, 1) := by decide +kernel
theorem d_0_195 : decode (mB 0) 195 = .ok (.iaload, 1) := by decide +kernel
theorem d_0_196 : decode (mB 0) 196 = .ok (.i2l, 1) := by decide +kernel
theorem d_0_197 : decode (mB 0) 197 = .ok ((.bipush 32), 2) := by decide +kernel
theorem d_0_199 : decode (mB 0) 199 = .ok (.lshl, 1) := by decide +kernel
theorem d_0_200 : decode (mB 0) 200 = .ok ((.aload_n 0), 1) := by decide +kernel
theorem d_0_201 : decode (mB 0) 201 = .ok ((.iload_n 3), 1) := by decide +kernel
theorem d_0_202 : decode (mB 0) 202 = .ok ((.iconst 3), 1) := by decide +kernel
theorem d_0_203 : decode (mB 0) 203 = .ok (.iadd, 1) := by decide +kernel
theorem d_0_204 : decode (mB 0) 204 = .ok (.iaload, 1) := by decide +kernel
theorem d_0_205 : decode (mB 0) 205 = .ok (.i2l, 1) := by decide +kernel
theorem d_0_206 : decode (mB 0) 206 = .ok ((.ldc2_w 13), 3) := by decide +kernel
theorem d_0_209 : decode (mB 0) 209 = .ok (.land, 1) := by decide +kernel
theorem d_0_210 : decode (mB 0) 210 = .ok (.lor, 1) := by decide +kernel
theorem d_0_211 : decode (mB 0) 211 = .ok ((.invokevirtual 19), 3) := by decide +kernel
theorem d_0_214 : decode (mB 0) 214 = .ok ((.if_icmp .eq 849), 3) := by decide +kernel
theorem d_0_217 : decode (mB 0) 217 = .ok ((.iconst 0), 1) := by decide +kernel
theorem d_0_218 : decode (mB 0) 218 = .ok (.ireturn, 1) := by decide +kernel
theorem d_0_219 : decode (mB 0) 219 = .ok ((.aload_n 1), 1) := by decide +kernel
theorem d_0_220 : decode (mB 0) 220 = .ok ((.invokevirtual 20), 3) := by decide +kernel
theorem d_0_223 : decode (mB 0) 223 = .ok ((.aload_n 2), 1) := by decide +kernel
theorem d_0_224 : decode (mB 0) 224 = .ok ((.invokevirtual 24), 3) := by decide +kernel
theorem d_0_227 : decode (mB 0) 227 = .ok ((.if_icmp .eq 836), 3) := by decide +kernel
theorem d_0_230 : decode (mB 0) 230 = .ok ((.iconst 0), 1) := by decide +kernel
theorem d_0_231 : decode (mB 0) 231 = .ok (.ireturn, 1) := by decide +kernel
theorem d_0_232 : decode (mB 0) 232 = .ok ((.aload_n 1), 1) := by decide +kernel
theorem d_0_233 : decode (mB 0) 233 = .ok ((.invokevirtual 25), 3) := by decide +kernel
theorem d_0_236 : decode (mB 0) 236 = .ok ((.aload_n 2), 1) := by decide +kernel
theorem d_0_237 : decode (mB 0) 237 = .ok ((.invokevirtual 28), 3) := by decide +kernel
theorem d_0_240 : decode (mB 0) 240 = .ok ((.if_icmp .eq 823), 3) := by decide +kernel
theorem d_0_243 : decode (mB 0) 243 = .ok ((.iconst 0), 1) := by decide +kernel
theorem d_0_244 : decode (mB 0) 244 = .ok (.ireturn, 1) := by decide +kernel
theorem d_0_245 : decode (mB 0) 245 = .ok ((.aload_n 1), 1) := by decide +kernel
theorem d_0_246 : decode (mB 0) 246 = .ok ((.invokevirtual 29), 3) := by decide +kernel
theorem d_0_249 : decode (mB 0) 249 = .ok ((.aload_n 2), 1) := by decide +kernel
theorem d_0_250 : decode (mB 0) 250 = .ok ((.invokevirtual 32), 3) := by decide +kernel
theorem d_0_253 : decode (mB 0) 253 = .ok ((.if_icmp .eq 810), 3) := by decide +kernel
theorem d_0_256 : decode (mB 0) 256 = .ok ((.iconst 0), 1) := by decide +kernel
theorem d_0_257 : decode (mB 0) 257 = .ok (.ireturn, 1) := by decide +kernel
theorem d_0_258 : decode (mB 0) 258 = .ok ((.aload_n 1), 1) := by decide +kernel
theorem d_0_259 : decode (mB 0) 259 = .ok ((.aload_n 0), 1) := by decide +kernel
theorem d_0_260 : decode (mB 0) 260 = .ok ((.iload_n 3), 1) := by decide +kernel
theorem d_0_261 : decode (mB 0) 261 = .ok ((.iconst 1), 1) := by decide +kernel
theorem d_0_262 : decode (mB 0) 262 = .ok (.iadd, 1) := by decide +kernel
theorem d_0_263 : decode (mB 0) 263 = .ok (.iaload, 1) := by decide +kernel
theorem d_0_264 : decode (mB 0) 264 = .ok ((.aload_n 0), 1) := by decide +kernel
theorem d_0_265 : decode (mB 0) 265 = .ok ((.iload_n 3), 1) := by decide +kernel
theorem d_0_266 : decode (mB 0) 266 = .ok ((.iconst 2), 1) := by decide +kernel
theorem d_0_267 : decode (mB 0) 267 = .ok (.iadd, 1) := by decide +kernel
theorem d_0_268 : decode (mB 0) 268 = .ok (.iaload, 1) := by decide +kernel
theorem d_0_269 : decode (mB 0) 269 = .ok ((.invokevirtual 33), 3) := by decide +kernel
theorem d_0_272 : decode (mB 0) 272 = .ok ((.aload_n 2), 1) := by decide +kernel
theorem d_0_273 : decode (mB 0) 273 = .ok ((.aload_n 0), 1) := by decide +kernel
theorem d_0_274 : decode (mB 0) 274 = .ok ((.iload_n 3), 1) := by decide +kernel
theorem d_0_275 : decode (mB 0) 275 = .ok ((.iconst 1), 1) := by decide +kernel
theorem d_0_276 : decode (mB 0) 276 = .ok (.iadd, 1) := by decide +kernel
theorem d_0_277 : decode (mB 0) 277 = .ok (.iaload, 1) := by decide +kernel
theorem d_0_278 : decode (mB 0) 278 = .ok ((.aload_n 0), 1) := by decide +kernel
theorem d_0_279 : decode (mB 0) 279 = .ok ((.iload_n 3), 1) := by decide +kernel
theorem d_0_280 : decode (mB 0) 280 = .ok ((.iconst 2), 1) := by decide +kernel
theorem d_0_281 : decode (mB 0) 281 = .ok (.iadd, 1) := by decide +kernel
theorem d_0_282 : decode (mB 0) 282 = .ok (.iaload, 1) := by decide +kernel
theorem d_0_283 : decode (mB 0) 283 = .ok ((.invokevirtual 37), 3) := by decide +kernel
theorem d_0_286 : decode (mB 0) 286 = .ok ((.if_icmp .eq 777), 3) := by decide +kernel
theorem d_0_289 : decode (mB 0) 289 = .ok ((.iconst 0), 1) := by decide +kernel
theorem d_0_290 : decode (mB 0) 290 = .ok (.ireturn, 1) := by decide +kernel
theorem d_0_291 : decode (mB 0) 291 = .ok ((.aload_n 1), 1) := by decide +kernel
theorem d_0_292 : decode (mB 0) 292 = .ok ((.aload_n 0), 1) := by decide +kernel
theorem d_0_293 : decode (mB 0) 293 = .ok ((.iload_n 3), 1) := by decide +kernel
theorem d_0_294 : decode (mB 0) 294 = .ok ((.iconst 1), 1) := by decide +kernel
theorem d_0_295 : decode (mB 0) 295 = .ok (.iadd, 1) := by decide +kernel
theorem d_0_296 : decode (mB 0) 296 = .ok (.iaload, 1) := by decide +kernel
theorem d_0_297 : decode (mB 0) 297 = .ok ((.aload_n 0), 1) := by decide +kernel
theorem d_0_298 : decode (mB 0) 298 = .ok ((.iload_n 3), 1) := by decide +kernel
theorem d_0_299 : decode (mB 0) 299 = .ok ((.iconst 2), 1) := by decide +kernel
theorem d_0_300 : decode (mB 0) 300 = .ok (.iadd, 1) := by decide +kernel
theorem d_0_301 : decode (mB 0) 301 = .ok (.iaload, 1) := by decide +kernel
theorem d_0_302 : decode (mB 0) 302 = .ok ((.ifCond .eq 7), 3) := by decide +kernel
theorem d_0_305 : decode (mB 0) 305 = .ok ((.iconst 1), 1) := by decide +kernel
theorem d_0_306 : decode (mB 0) 306 = .ok ((.goto 4), 3) := by decide +kernel
theorem d_0_309 : decode (mB 0) 309 = .ok ((.iconst 0), 1) := by decide +kernel
theorem d_0_310 : decode (mB 0) 310 = .ok ((.invokevirtual 38), 3) := by decide +kernel
theorem d_0_313 : decode (mB 0) 313 = .ok ((.aload_n 2), 1) := by decide +kernel
theorem d_0_314 : decode (mB 0) 314 = .ok ((.aload_n 0), 1) := by decide +kernel
theorem d_0_315 : decode (mB 0) 315 = .ok ((.iload_n 3), 1) := by decide +kernel
theorem d_0_316 : decode (mB 0) 316 = .ok ((.iconst 1), 1) := by decide +kernel
theorem d_0_317 : decode (mB 0) 317 = .ok (.iadd, 1) := by decide +kernel
theorem d_0_318 : decode (mB 0) 318 = .ok (.iaload, 1) := by decide +kernel
theorem d_0_319 : decode (mB 0) 319 = .ok ((.aload_n 0), 1) := by decide +kernel
theorem d_0_320 : decode (mB 0) 320 = .ok ((.iload_n 3), 1) := by decide +kernel
theorem d_0_321 : decode (mB 0) 321 = .ok ((.iconst 2), 1) := by decide +kernel
theorem d_0_322 : decode (mB 0) 322 = .ok (.iadd, 1) := by decide +kernel
theorem d_0_323 : decode (mB 0) 323 = .ok (.iaload, 1) := by decide +kernel
theorem d_0_324 : decode (mB 0) 324 = .ok ((.ifCond .eq 7), 3) := by decide +kernel
theorem d_0_327 : decode (mB 0) 327 = .ok ((.iconst 1), 1) := by decide +kernel
theorem d_0_328 : decode (mB 0) 328 = .ok ((.goto 4), 3) := by decide +kernel
theorem d_0_331 : decode (mB 0) 331 = .ok ((.iconst 0), 1) := by decide +kernel
theorem d_0_332 : decode (mB 0) 332 = .ok ((.invokevirtual 42), 3) := by decide +kernel
theorem d_0_335 : decode (mB 0) 335 = .ok ((.if_icmp .eq 728), 3) := by decide +kernel
theorem d_0_338 : decode (mB 0) 338 = .ok ((.iconst 0), 1) := by decide +kernel
theorem d_0_339 : decode (mB 0) 339 = .ok (.ireturn, 1) := by decide +kernel
theorem d_0_340 : decode (mB 0) 340 = .ok ((.aload_n 1), 1) := by decide +kernel
theorem d_0_341 : decode (mB 0) 341 = .ok ((.aload_n 0), 1) := by decide +kernel
theorem d_0_342 : decode (mB 0) 342 = .ok ((.iload_n 3), 1) := by decide +kernel
theorem d_0_343 : decode (mB 0) 343 = .ok ((.iconst 1), 1) := by decide +kernel
theorem d_0_344 : decode (mB 0) 344 = .ok (.iadd, 1) := by decide +kernel
theorem d_0_345 : decode (mB 0) 345 = .ok (.iaload, 1) := by decide +kernel
theorem d_0_346 : decode (mB 0) 346 = .ok ((.invokevirtual 43), 3) := by decide +kernel
theorem d_0_349 : decode (mB 0) 349 = .ok ((.aload_n 2), 1) := by decide +kernel
theorem d_0_350 : decode (mB 0) 350 = .ok ((.aload_n 0), 1) := by decide +kernel
theorem d_0_351 : decode (mB 0) 351 = .ok ((.iload_n 3), 1) := by decide +kernel
theorem d_0_352 : decode (mB 0) 352 = .ok ((.iconst 1), 1) := by decide +kernel
theorem d_0_353 : decode (mB 0) 353 = .ok (.iadd, 1) := by decide +kernel
theorem d_0_354 : decode (mB 0) 354 = .ok (.iaload, 1) := by decide +kernel
theorem d_0_355 : decode (mB 0) 355 = .ok ((.invokevirtual 47), 3) := by decide +kernel
theorem d_0_358 : decode (mB 0) 358 = .ok ((.if_icmp .eq 705), 3) := by decide +kernel
theorem d_0_361 : decode (mB 0) 361 = .ok ((.iconst 0), 1) := by decide +kernel
theorem d_0_362 : decode (mB 0) 362 = .ok (.ireturn, 1) := by decide +kernel
theorem d_0_363 : decode (mB 0) 363 = .ok ((.aload_n 1), 1) := by decide +kernel
theorem d_0_364 : decode (mB 0) 364 = .ok ((.aload_n 0), 1) := by decide +kernel
theorem d_0_365 : decode (mB 0) 365 = .ok ((.iload_n 3), 1) := by decide +kernel
theorem d_0_366 : decode (mB 0) 366 = .ok ((.iconst 1), 1) := by decide +kernel
theorem d_0_367 : decode (mB 0) 367 = .ok (.iadd, 1) := by decide +kernel
theorem d_0_368 : decode (mB 0) 368 = .ok (.iaload, 1) := by decide +kernel
theorem d_0_369 : decode (mB 0) 369 = .ok ((.aload_n 0), 1) := by decide +kernel
theorem d_0_370 : decode (mB 0) 370 = .ok ((.iload_n 3), 1) := by decide +kernel
theorem d_0_371 : decode (mB 0) 371 = .ok ((.iconst 2), 1) := by decide +kernel
theorem d_0_372 : decode (mB 0) 372 = .ok (.iadd, 1) := by decide +kernel
theorem d_0_373 : decode (mB 0) 373 = .ok (.iaload, 1) := by decide +kernel
theorem d_0_374 : decode (mB 0) 374 = .ok ((.invokevirtual 48), 3) := by decide +kernel
theorem d_0_377 : decode (mB 0) 377 = .ok ((.aload_n 2), 1) := by decide +kernel
theorem d_0_378 : decode (mB 0) 378 = .ok ((.aload_n 0), 1) := by decide +kernel
theorem d_0_379 : decode (mB 0) 379 = .ok ((.iload_n 3), 1) := by decide +kernel
theorem d_0_380 : decode (mB 0) 380 = .ok ((.iconst 1), 1) := by decide +kernel
theorem d_0_381 : decode (mB 0) 381 = .ok (.iadd, 1) := by decide +kernel
theorem d_0_382 : decode (mB 0) 382 = .ok (.iaload, 1) := by decide +kernel
theorem d_0_383 : decode (mB 0) 383 = .ok ((.aload_n 0), 1) := by decide +kernel
theorem d_0_384 : decode (mB 0) 384 = .ok ((.iload_n 3), 1) := by decide +kernel
theorem d_0_385 : decode (mB 0) 385 = .ok ((.iconst 2), 1) := by decide +kernel
theorem d_0_386 : decode (mB 0) 386 = .ok (.iadd, 1) := by decide +kernel
theorem d_0_387 : decode (mB 0) 387 = .ok (.iaload, 1) := by decide +kernel
theorem d_0_388 : decode (mB 0) 388 = .ok ((.invokevirtual 51), 3) := by decide +kernel
theorem d_0_391 : decode (mB 0) 391 = .ok ((.if_icmp .eq 672), 3) := by decide +kernel
theorem d_0_394 : decode (mB 0) 394 = .ok ((.iconst 0), 1) := by decide +kernel
theorem d_0_395 : decode (mB 0) 395 = .ok (.ireturn, 1) := by decide +kernel
theorem d_0_396 : decode (mB 0) 396 = .ok ((.aload_n 1), 1) := by decide +kernel
theorem d_0_397 : decode (mB 0) 397 = .ok ((.aload_n 0), 1) := by decide +kernel
theorem d_0_398 : decode (mB 0) 398 = .ok ((.iload_n 3), 1) := by decide +kernel
theorem d_0_399 : decode (mB 0) 399 = .ok ((.iconst 1), 1) := by decide +kernel
theorem d_0_400 : decode (mB 0) 400 = .ok (.iadd, 1) := by decide +kernel
theorem d_0_401 : decode (mB 0) 401 = .ok (.iaload, 1) := by decide +kernel
theorem d_0_402 : decode (mB 0) 402 = .ok ((.aload_n 0), 1) := by decide +kernel
theorem d_0_403 : decode (mB 0) 403 = .ok ((.iload_n 3), 1) := by decide +kernel
theorem d_0_404 : decode (mB 0) 404 = .ok ((.iconst 2), 1) := by decide +kernel
theorem d_0_405 : decode (mB 0) 405 = .ok (.iadd, 1) := by decide +kernel
theorem d_0_406 : decode (mB 0) 406 = .ok (.iaload, 1) := by decide +kernel
theorem d_0_407 : decode (mB 0) 407 = .ok ((.invokevirtual 52), 3) := by decide +kernel
theorem d_0_410 : decode (mB 0) 410 = .ok ((.aload_n 2), 1) := by decide +kernel
theorem d_0_411 : decode (mB 0) 411 = .ok ((.aload_n 0), 1) := by decide +kernel
theorem d_0_412 : decode (mB 0) 412 = .ok ((.iload_n 3), 1) := by decide +kernel
theorem d_0_413 : decode (mB 0) 413 = .ok ((.iconst 1), 1) := by decide +kernel
theorem d_0_414 : decode (mB 0) 414 = .ok (.iadd, 1) := by decide +kernel
theorem d_0_415 : decode (mB 0) 415 = .ok (.iaload, 1) := by decide +kernel
theorem d_0_416 : decode (mB 0) 416 = .ok ((.aload_n 0), 1) := by decide +kernel
theorem d_0_417 : decode (mB 0) 417 = .ok ((.iload_n 3), 1) := by decide +kernel
theorem d_0_418 : decode (mB 0) 418 = .ok ((.iconst 2), 1) := by decide +kernel
theorem d_0_419 : decode (mB 0) 419 = .ok (.iadd, 1) := by decide +kernel
theorem d_0_420 : decode (mB 0) 420 = .ok (.iaload, 1) := by decide +kernel
theorem d_0_421 : decode (mB 0) 421 = .ok ((.invokevirtual 55), 3) := by decide +kernel
theorem d_0_424 : decode (mB 0) 424 = .ok ((.if_icmp .eq 639), 3) := by decide +kernel
theorem d_0_427 : decode (mB 0) 427 = .ok ((.iconst 0), 1) := by decide +kernel
theorem d_0_428 : decode (mB 0) 428 = .ok (.ireturn, 1) := by decide +kernel
theorem d_0_429 : decode (mB 0) 429 = .ok ((.aload_n 1), 1) := by decide +kernel
theorem d_0_430 : decode (mB 0) 430 = .ok ((.invokevirtual 56), 3) := by decide +kernel
theorem d_0_433 : decode (mB 0) 433 = .ok ((.aload_n 2), 1) := by decide +kernel
theorem d_0_434 : decode (mB 0) 434 = .ok ((.invokevirtual 59), 3) := by decide +kernel
theorem d_0_437 : decode (mB 0) 437 = .ok ((.if_icmp .eq 626), 3) := by decide +kernel
theorem d_0_440 : decode (mB 0) 440 = .ok ((.iconst 0), 1) := by decide +kernel
theorem d_0_441 : decode (mB 0) 441 = .ok (.ireturn, 1) := by decide +kernel
theorem d_0_442 : decode (mB 0) 442 = .ok ((.aload_n 1), 1) := by decide +kernel
theorem d_0_443 : decode (mB 0) 443 = .ok ((.aload_n 0), 1) := by decide +kernel
theorem d_0_444 : decode (mB 0) 444 = .ok ((.iload_n 3), 1) := by decide +kernel
theorem d_0_445 : decode (mB 0) 445 = .ok ((.iconst 1), 1) := by decide +kernel
theorem d_0_446 : decode (mB 0) 446 = .ok (.iadd, 1) := by decide +kernel
theorem d_0_447 : decode (mB 0) 447 = .ok (.iaload, 1) := by decide +kernel
theorem d_0_448 : decode (mB 0) 448 = .ok ((.aload_n 0), 1) := by decide +kernel
theorem d_0_449 : decode (mB 0) 449 = .ok ((.iload_n 3), 1) := by decide +kernel
theorem d_0_450 : decode (mB 0) 450 = .ok ((.iconst 2), 1) := by decide +kernel
theorem d_0_451 : decode (mB 0) 451 = .ok (.iadd, 1) := by decide +kernel
theorem d_0_452 : decode (mB 0) 452 = .ok (.iaload, 1) := by decide +kernel
theorem d_0_453 : decode (mB 0) 453 = .ok ((.aload_n 0), 1) := by decide +kernel
theorem d_0_454 : decode (mB 0) 454 = .ok ((.iload_n 3), 1) := by decide +kernel
theorem d_0_455 : decode (mB 0) 455 = .ok ((.iconst 3), 1) := by decide +kernel
theorem d_0_456 : decode (mB 0) 456 = .ok (.iadd, 1) := by decide +kernel
theorem d_0_457 : decode (mB 0) 457 = .ok (.iaload, 1) := by decide +kernel
theorem d_0_458 : decode (mB 0) 458 = .ok ((.invokevirtual 60), 3) := by decide +kernel
theorem d_0_461 : decode (mB 0) 461 = .ok ((.aload_n 2), 1) := by decide +kernel
theorem d_0_462 : decode (mB 0) 462 = .ok ((.aload_n 0), 1) := by decide +kernel
theorem d_0_463 : decode (mB 0) 463 = .ok ((.iload_n 3), 1) := by decide +kernel
theorem d_0_464 : decode (mB 0) 464 = .ok ((.iconst 1), 1) := by decide +kernel
theorem d_0_465 : decode (mB 0) 465 = .ok (.iadd, 1) := by decide +kernel
theorem d_0_466 : decode (mB 0) 466 = .ok (.iaload, 1) := by decide +kernel
theorem d_0_467 : decode (mB 0) 467 = .ok ((.aload_n 0), 1) := by decide +kernel
theorem d_0_468 : decode (mB 0) 468 = .ok ((.iload_n 3), 1) := by decide +kernel
theorem d_0_469 : decode (mB 0) 469 = .ok ((.iconst 2), 1) := by decide +kernel
theorem d_0_470 : decode (mB 0) 470 = .ok (.iadd, 1) := by decide +kernel
theorem d_0_471 : decode (mB 0) 471 = .ok (.iaload, 1) := by decide +kernel
theorem d_0_472 : decode (mB 0) 472 = .ok ((.aload_n 0), 1) := by decide +kernel
theorem d_0_473 : decode (mB 0) 473 = .ok ((.iload_n 3), 1) := by decide +kernel
theorem d_0_474 : decode (mB 0) 474 = .ok ((.iconst 3), 1) := by decide +kernel
theorem d_0_475 : decode (mB 0) 475 = .ok (.iadd, 1) := by decide +kernel
theorem d_0_476 : decode (mB 0) 476 = .ok (.iaload, 1) := by decide +kernel
theorem d_0_477 : decode (mB 0) 477 = .ok ((.invokevirtual 64), 3) := by decide +kernel
theorem d_0_480 : decode (mB 0) 480 = .ok ((.if_icmp .eq 583), 3) := by decide +kernel
theorem d_0_483 : decode (mB 0) 483 = .ok ((.iconst 0), 1) := by decide +kernel
theorem d_0_484 : decode (mB 0) 484 = .ok (.ireturn, 1) := by decide +kernel
theorem d_0_485 : decode (mB 0) 485 = .ok ((.aload_n 1), 1) := by decide +kernel
theorem d_0_486 : decode (mB 0) 486 = .ok ((.aload_n 0), 1) := by decide +kernel
theorem d_0_487 : decode (mB 0) 487 = .ok ((.iload_n 3), 1) := by decide +kernel
theorem d_0_488 : decode (mB 0) 488 = .ok ((.iconst 1), 1) := by decide +kernel
theorem d_0_489 : decode (mB 0) 489 = .ok (.iadd, 1) := by decide +kernel
theorem d_0_490 : decode (mB 0) 490 = .ok (.iaload, 1) := by decide +kernel
theorem d_0_491 : decode (mB 0) 491 = .ok ((.aload_n 0), 1) := by decide +kernel
theorem d_0_492 : decode (mB 0) 492 = .ok ((.iload_n 3), 1) := by decide +kernel
theorem d_0_493 : decode (mB 0) 493 = .ok ((.iconst 2), 1) := by decide +kernel
theorem d_0_494 : decode (mB 0) 494 = .ok (.iadd, 1) := by decide +kernel
theorem d_0_495 : decode (mB 0) 495 = .ok (.iaload, 1) := by decide +kernel
theorem d_0_496 : decode (mB 0) 496 = .ok ((.aload_n 0), 1) := by decide +kernel
theorem d_0_497 : decode (mB 0) 497 = .ok ((.iload_n 3), 1) := by decide +kernel
theorem d_0_498 : decode (mB 0) 498 = .ok ((.iconst 3), 1) := by decide +kernel
theorem d_0_499 : decode (mB 0) 499 = .ok (.iadd, 1) := by decide +kernel
theorem d_0_500 : decode (mB 0) 500 = .ok (.iaload, 1) := by decide +kernel
theorem d_0_501 : decode (mB 0) 501 = .ok ((.ifCond .eq 7), 3) := by decide +kernel
theorem d_0_504 : decode (mB 0) 504 = .ok ((.iconst 1), 1) := by decide +kernel
theorem d_0_505 : decode (mB 0) 505 = .ok ((.goto 4), 3) := by decide +kernel
theorem d_0_508 : decode (mB 0) 508 = .ok ((.iconst 0), 1) := by decide +kernel
theorem d_0_509 : decode (mB 0) 509 = .ok ((.invokevirtual 65), 3) := by decide +kernel
theorem d_0_512 : decode (mB 0) 512 = .ok ((.aload_n 2), 1) := by decide +kernel
theorem d_0_513 : decode (mB 0) 513 = .ok ((.aload_n 0), 1) := by decide +kernel
theorem d_0_514 : decode (mB 0) 514 = .ok ((.iload_n 3), 1) := by decide +kernel
theorem d_0_515 : decode (mB 0) 515 = .ok ((.iconst 1), 1) := by decide +kernel
theorem d_0_516 : decode (mB 0) 516 = .ok (.iadd, 1) := by decide +kernel
theorem d_0_517 : decode (mB 0) 517 = .ok (.iaload, 1) := by decide +kernel
theorem d_0_518 : decode (mB 0) 518 = .ok ((.aload_n 0), 1) := by decide +kernel
theorem d_0_519 : decode (mB 0) 519 = .ok ((.iload_n 3), 1) := by decide +kernel
theorem d_0_520 : decode (mB 0) 520 = .ok ((.iconst 2), 1) := by decide +kernel
theorem d_0_521 : decode (mB 0) 521 = .ok (.iadd, 1) := by decide +kernel
theorem d_0_522 : decode (mB 0) 522 = .ok (.iaload, 1) := by decide +kernel
theorem d_0_523 : decode (mB 0) 523 = .ok ((.aload_n 0), 1) := by decide +kernel
theorem d_0_524 : decode (mB 0) 524 = .ok ((.iload_n 3), 1) := by decide +kernel
theorem d_0_525 : decode (mB 0) 525 = .ok ((.iconst 3), 1) := by decide +kernel
theorem d_0_526 : decode (mB 0) 526 = .ok (.iadd, 1) := by decide +kernel
theorem d_0_527 : decode (mB 0) 527 = .ok (.iaload, 1) := by decide +kernel
theorem d_0_528 : decode (mB 0) 528 = .ok ((.ifCond .eq 7), 3) := by decide +kernel
theorem d_0_531 : decode (mB 0) 531 = .ok ((.iconst 1), 1) := by decide +kernel
theorem d_0_532 : decode (mB 0) 532 = .ok ((.goto 4), 3) := by decide +kernel
theorem d_0_535 : decode (mB 0) 535 = .ok ((.iconst 0), 1) := by decide +kernel
theorem d_0_536 : decode (mB 0) 536 = .ok ((.invokevirtual 69), 3) := by decide +kernel
theorem d_0_539 : decode (mB 0) 539 = .ok ((.if_icmp .eq 524), 3) := by decide +kernel
theorem d_0_542 : decode (mB 0) 542 = .ok ((.iconst 0), 1) := by decide +kernel
theorem d_0_543 : decode (mB 0) 543 = .ok (.ireturn, 1) := by decide +kernel
theorem d_0_544 : decode (mB 0) 544 = .ok ((.aload_n 1), 1) := by decide +kernel
theorem d_0_545 : decode (mB 0) 545 = .ok ((.aload_n 0), 1) := by decide +kernel
theorem d_0_546 : decode (mB 0) 546 = .ok ((.iload_n 3), 1) := by decide +kernel
theorem d_0_547 : decode (mB 0) 547 = .ok ((.iconst 1), 1) := by decide +kernel
theorem d_0_548 : decode (mB 0) 548 = .ok (.iadd, 1) := by decide +kernel
theorem d_0_549 : decode (mB 0) 549 = .ok (.iaload, 1) := by decide +kernel
theorem d_0_550 : decode (mB 0) 550 = .ok ((.aload_n 0), 1) := by decide +kernel
theorem d_0_551 : decode (mB 0) 551 = .ok ((.iload_n 3), 1) := by decide +kernel
theorem d_0_552 : decode (mB 0) 552 = .ok ((.iconst 2), 1) := by decide +kernel
theorem d_0_553 : decode (mB 0) 553 = .ok (.iadd, 1) := by decide +kernel
theorem d_0_554 : decode (mB 0) 554 = .ok (.iaload, 1) := by decide +kernel
theorem d_0_555 : decode (mB 0) 555 = .ok ((.invokevirtual 70), 3) := by decide +kernel
theorem d_0_558 : decode (mB 0) 558 = .ok ((.aload_n 2), 1) := by decide +kernel
theorem d_0_559 : decode (mB 0) 559 = .ok ((.aload_n 0), 1) := by decide +kernel
theorem d_0_560 : decode (mB 0) 560 = .ok ((.iload_n 3), 1) := by decide +kernel
theorem d_0_561 : decode (mB 0) 561 = .ok ((.iconst 1), 1) := by decide +kernel
theorem d_0_562 : decode (mB 0) 562 = .ok (.iadd, 1) := by decide +kernel
theorem d_0_563 : decode (mB 0) 563 = .ok (.iaload, 1) := by decide +kernel
theorem d_0_564 : decode (mB 0) 564 = .ok ((.aload_n 0), 1) := by decide +kernel
theorem d_0_565 : decode (mB 0) 565 = .ok ((.iload_n 3), 1) := by decide +kernel
theorem d_0_566 : decode (mB 0) 566 = .ok ((.iconst 2), 1) := by decide +kernel
theorem d_0_567 : decode (mB 0) 567 = .ok (.iadd, 1) := by decide +kernel
theorem d_0_568 : decode (mB 0) 568 = .ok (.iaload, 1) := by decide +kernel
theorem d_0_569 : decode (mB 0) 569 = .ok ((.invokevirtual 73), 3) := by decide +kernel
theorem d_0_572 : decode (mB 0) 572 = .ok ((.if_icmp .eq 491), 3) := by decide +kernel
theorem d_0_575 : decode (mB 0) 575 = .ok ((.iconst 0), 1) := by decide +kernel
theorem d_0_576 : decode (mB 0) 576 = .ok (.ireturn, 1) := by decide +kernel
theorem d_0_577 : decode (mB 0) 577 = .ok ((.aload_n 1), 1) := by decide +kernel
theorem d_0_578 : decode (mB 0) 578 = .ok ((.aload_n 0), 1) := by decide +kernel
theorem d_0_579 : decode (mB 0) 579 = .ok ((.iload_n 3), 1) := by decide +kernel
theorem d_0_580 : decode (mB 0) 580 = .ok ((.iconst 1), 1) := by decide +kernel
theorem d_0_581 : decode (mB 0) 581 = .ok (.iadd, 1) := by decide +kernel
theorem d_0_582 : decode (mB 0) 582 = .ok (.iaload, 1) := by decide +kernel
theorem d_0_583 : decode (mB 0) 583 = .ok ((.aload_n 0), 1) := by decide +kernel
theorem d_0_584 : decode (mB 0) 584 = .ok ((.iload_n 3), 1) := by decide +kernel
theorem d_0_585 : decode (mB 0) 585 = .ok ((.iconst 2), 1) := by decide +kernel
theorem d_0_586 : decode (mB 0) 586 = .ok (.iadd, 1) := by decide +kernel
theorem d_0_587 : decode (mB 0) 587 = .ok (.iaload, 1) := by decide +kernel
theorem d_0_588 : decode (mB 0) 588 = .ok ((.invokevirtual 74), 3) := by decide +kernel
theorem d_0_591 : decode (mB 0) 591 = .ok ((.aload_n 2), 1) := by decide +kernel
theorem d_0_592 : decode (mB 0) 592 = .ok ((.aload_n 0), 1) := by decide +kernel
theorem d_0_593 : decode (mB 0) 593 = .ok ((.iload_n 3), 1) := by decide +kernel
theorem d_0_594 : decode (mB 0) 594 = .ok ((.iconst 1), 1) := by decide +kernel
theorem d_0_595 : decode (mB 0) 595 = .ok (.iadd, 1) := by decide +kernel
theorem d_0_596 : decode (mB 0) 596 = .ok (.iaload, 1) := by decide +kernel
theorem d_0_597 : decode (mB 0) 597 = .ok ((.aload_n 0), 1) := by decide +kernel
theorem d_0_598 : decode (mB 0) 598 = .ok ((.iload_n 3), 1) := by decide +kernel
theorem d_0_599 : decode (mB 0) 599 = .ok ((.iconst 2), 1) := by decide +kernel
theorem d_0_600 : decode (mB 0) 600 = .ok (.iadd, 1) := by decide +kernel
theorem d_0_601 : decode (mB 0) 601 = .ok (.iaload, 1) := by decide +kernel
theorem d_0_602 : decode (mB 0) 602 = .ok ((.invokevirtual 77), 3) := by decide +kernel
theorem d_0_605 : decode (mB 0) 605 = .ok ((.if_icmp .eq 458), 3) := by decide +kernel
theorem d_0_608 : decode (mB 0) 608 = .ok ((.iconst 0), 1) := by decide +kernel
theorem d_0_609 : decode (mB 0) 609 = .ok (.ireturn, 1) := by decide +kernel
theorem d_0_610 : decode (mB 0) 610 = .ok ((.aload_n 1), 1) := by decide +kernel
theorem d_0_611 : decode (mB 0) 611 = .ok ((.aload_n 0), 1) := by decide +kernel
theorem d_0_612 : decode (mB 0) 612 = .ok ((.iload_n 3), 1) := by decide +kernel
theorem d_0_613 : decode (mB 0) 613 = .ok ((.iconst 1), 1) := by decide +kernel
theorem d_0_614 : decode (mB 0) 614 = .ok (.iadd, 1) := by decide +kernel
theorem d_0_615 : decode (mB 0) 615 = .ok (.iaload, 1) := by decide +kernel
theorem d_0_616 : decode (mB 0) 616 = .ok ((.aload_n 0), 1) := by decide +kernel
theorem d_0_617 : decode (mB 0) 617 = .ok ((.iload_n 3), 1) := by decide +kernel
theorem d_0_618 : decode (mB 0) 618 = .ok ((.iconst 2), 1) := by decide +kernel
theorem d_0_619 : decode (mB 0) 619 = .ok (.iadd, 1) := by decide +kernel
theorem d_0_620 : decode (mB 0) 620 = .ok (.iaload, 1) := by decide +kernel
theorem d_0_621 : decode (mB 0) 621 = .ok ((.invokevirtual 78), 3) := by decide +kernel
theorem d_0_624 : decode (mB 0) 624 = .ok ((.aload_n 2), 1) := by decide +kernel
theorem d_0_625 : decode (mB 0) 625 = .ok ((.aload_n 0), 1) := by decide +kernel
theorem d_0_626 : decode (mB 0) 626 = .ok ((.iload_n 3), 1) := by decide +kernel
theorem d_0_627 : decode (mB 0) 627 = .ok ((.iconst 1), 1) := by decide +kernel
theorem d_0_628 : decode (mB 0) 628 = .ok (.iadd, 1) := by decide +kernel
theorem d_0_629 : decode (mB 0) 629 = .ok (.iaload, 1) := by decide +kernel
theorem d_0_630 : decode (mB 0) 630 = .ok ((.aload_n 0), 1) := by decide +kernel
theorem d_0_631 : decode (mB 0) 631 = .ok ((.iload_n 3), 1) := by decide +kernel
theorem d_0_632 : decode (mB 0) 632 = .ok ((.iconst 2), 1) := by decide +kernel
theorem d_0_633 : decode (mB 0) 633 = .ok (.iadd, 1) := by decide +kernel
theorem d_0_634 : decode (mB 0) 634 = .ok (.iaload, 1) := by decide +kernel
theorem d_0_635 : decode (mB 0) 635 = .ok ((.invokevirtual 81), 3) := by decide +kernel
theorem d_0_638 : decode (mB 0) 638 = .ok ((.if_icmp .eq 425), 3) := by decide +kernel
theorem d_0_641 : decode (mB 0) 641 = .ok ((.iconst 0), 1) := by decide +kernel
theorem d_0_642 : decode (mB 0) 642 = .ok (.ireturn, 1) := by decide +kernel
theorem d_0_643 : decode (mB 0) 643 = .ok ((.aload_n 1), 1) := by decide +kernel
theorem d_0_644 : decode (mB 0) 644 = .ok ((.aload_n 0), 1) := by decide +kernel
theorem d_0_645 : decode (mB 0) 645 = .ok ((.iload_n 3), 1) := by decide +kernel
theorem d_0_646 : decode (mB 0) 646 = .ok ((.iconst 1), 1) := by decide +kernel
theorem d_0_647 : decode (mB 0) 647 = .ok (.iadd, 1) := by decide +kernel
theorem d_0_648 : decode (mB 0) 648 = .ok (.iaload, 1) := by decide +kernel
theorem d_0_649 : decode (mB 0) 649 = .ok ((.aload_n 0), 1) := by decide +kernel
theorem d_0_650 : decode (mB 0) 650 = .ok ((.iload_n 3), 1) := by decide +kernel
theorem d_0_651 : decode (mB 0) 651 = .ok ((.iconst 2), 1) := by decide +kernel
theorem d_0_652 : decode (mB 0) 652 = .ok (.iadd, 1) := by decide +kernel
theorem d_0_653 : decode (mB 0) 653 = .ok (.iaload, 1) := by decide +kernel
theorem d_0_654 : decode (mB 0) 654 = .ok ((.aload_n 0), 1) := by decide +kernel
theorem d_0_655 : decode (mB 0) 655 = .ok ((.iload_n 3), 1) := by decide +kernel
theorem d_0_656 : decode (mB 0) 656 = .ok ((.iconst 3), 1) := by decide +kernel
theorem d_0_657 : decode (mB 0) 657 = .ok (.iadd, 1) := by decide +kernel
theorem d_0_658 : decode (mB 0) 658 = .ok (.iaload, 1) := by decide +kernel
theorem d_0_659 : decode (mB 0) 659 = .ok ((.invokevirtual 82), 3) := by decide +kernel
theorem d_0_662 : decode (mB 0) 662 = .ok ((.aload_n 2), 1) := by decide +kernel
theorem d_0_663 : decode (mB 0) 663 = .ok ((.aload_n 0), 1) := by decide +kernel
theorem d_0_664 : decode (mB 0) 664 = .ok ((.iload_n 3), 1) := by decide +kernel
theorem d_0_665 : decode (mB 0) 665 = .ok ((.iconst 1), 1) := by decide +kernel
theorem d_0_666 : decode (mB 0) 666 = .ok (.iadd, 1) := by decide +kernel
theorem d_0_667 : decode (mB 0) 667 = .ok (.iaload, 1) := by decide +kernel
theorem d_0_668 : decode (mB 0) 668 = .ok ((.aload_n 0), 1) := by decide +kernel
theorem d_0_669 : decode (mB 0) 669 = .ok ((.iload_n 3), 1) := by decide +kernel
theorem d_0_670 : decode (mB 0) 670 = .ok ((.iconst 2), 1) := by decide +kernel
theorem d_0_671 : decode (mB 0) 671 = .ok (.iadd, 1) := by decide +kernel
theorem d_0_672 : decode (mB 0) 672 = .ok (.iaload, 1) := by decide +kernel
theorem d_0_673 : decode (mB 0) 673 = .ok ((.aload_n 0), 1) := by decide +kernel
theorem d_0_674 : decode (mB 0) 674 = .ok ((.iload_n 3), 1) := by decide +kernel
theorem d_0_675 : decode (mB 0) 675 = .ok ((.iconst 3), 1) := by decide +kernel
theorem d_0_676 : decode (mB 0) 676 = .ok (.iadd, 1) := by decide +kernel
theorem d_0_677 : decode (mB 0) 677 = .ok (.iaload, 1) := by decide +kernel
theorem d_0_678 : decode (mB 0) 678 = .ok ((.invokevirtual 85), 3) := by decide +kernel
theorem d_0_681 : decode (mB 0) 681 = .ok ((.if_icmp .eq 382), 3) := by decide +kernel
theorem d_0_684 : decode (mB 0) 684 = .ok ((.iconst 0), 1) := by decide +kernel
theorem d_0_685 : decode (mB 0) 685 = .ok (.ireturn, 1) := by decide +kernel
theorem d_0_686 : decode (mB 0) 686 = .ok ((.aload_n 1), 1) := by decide +kernel
theorem d_0_687 : decode (mB 0) 687 = .ok ((.aload_n 0), 1) := by decide +kernel
theorem d_0_688 : decode (mB 0) 688 = .ok ((.iload_n 3), 1) := by decide +kernel
theorem d_0_689 : decode (mB 0) 689 = .ok ((.iconst 1), 1) := by decide +kernel
theorem d_0_690 : decode (mB 0) 690 = .ok (.iadd, 1) := by decide +kernel
theorem d_0_691 : decode (mB 0) 691 = .ok (.iaload, 1) := by decide +kernel
theorem d_0_692 : decode (mB 0) 692 = .ok ((.aload_n 0), 1) := by decide +kernel
theorem d_0_693 : decode (mB 0) 693 = .ok ((.iload_n 3), 1) := by decide +kernel
theorem d_0_694 : decode (mB 0) 694 = .ok ((.iconst 2), 1) := by decide +kernel
theorem d_0_695 : decode (mB 0) 695 = .ok (.iadd, 1) := by decide +kernel
theorem d_0_696 : decode (mB 0) 696 = .ok (.iaload, 1) := by decide +kernel
theorem d_0_697 : decode (mB 0) 697 = .ok ((.invokevirtual 86), 3) := by decide +kernel
theorem d_0_700 : decode (mB 0) 700 = .ok ((.aload_n 2), 1) := by decide +kernel
theorem d_0_701 : decode (mB 0) 701 = .ok ((.aload_n 0), 1) := by decide +kernel
theorem d_0_702 : decode (mB 0) 702 = .ok ((.iload_n 3), 1) := by decide +kernel
theorem d_0_703 : decode (mB 0) 703 = .ok ((.iconst 1), 1) := by decide +kernel
theorem d_0_704 : decode (mB 0) 704 = .ok (.iadd, 1) := by decide +kernel
theorem d_0_705 : decode (mB 0) 705 = .ok (.iaload, 1) := by decide +kernel
theorem d_0_706 : decode (mB 0) 706 = .ok ((.aload_n 0), 1) := by decide +kernel
theorem d_0_707 : decode (mB 0) 707 = .ok ((.iload_n 3), 1) := by decide +kernel
theorem d_0_708 : decode (mB 0) 708 = .ok ((.iconst 2), 1) := by decide +kernel
theorem d_0_709 : decode (mB 0) 709 = .ok (.iadd, 1) := by decide +kernel
theorem d_0_710 : decode (mB 0) 710 = .ok (.iaload, 1) := by decide +kernel
theorem d_0_711 : decode (mB 0) 711 = .ok ((.invokevirtual 89), 3) := by decide +kernel
theorem d_0_714 : decode (mB 0) 714 = .ok ((.if_icmp .eq 349), 3) := by decide +kernel
theorem d_0_717 : decode (mB 0) 717 = .ok ((.iconst 0), 1) := by decide +kernel
theorem d_0_718 : decode (mB 0) 718 = .ok (.ireturn, 1) := by decide +kernel
theorem d_0_719 : decode (mB 0) 719 = .ok ((.aload_n 1), 1) := by decide +kernel
theorem d_0_720 : decode (mB 0) 720 = .ok ((.aload_n 0), 1) := by decide +kernel
theorem d_0_721 : decode (mB 0) 721 = .ok ((.iload_n 3), 1) := by decide +kernel
theorem d_0_722 : decode (mB 0) 722 = .ok ((.iconst 1), 1) := by decide +kernel
theorem d_0_723 : decode (mB 0) 723 = .ok (.iadd, 1) := by decide +kernel
theorem d_0_724 : decode (mB 0) 724 = .ok (.iaload, 1) := by decide +kernel
theorem d_0_725 : decode (mB 0) 725 = .ok ((.aload_n 0), 1) := by decide +kernel
theorem d_0_726 : decode (mB 0) 726 = .ok ((.iload_n 3), 1) := by decide +kernel
theorem d_0_727 : decode (mB 0) 727 = .ok ((.iconst 2), 1) := by decide +kernel
theorem d_0_728 : decode (mB 0) 728 = .ok (.iadd, 1) := by decide +kernel
theorem d_0_729 : decode (mB 0) 729 = .ok (.iaload, 1) := by decide +kernel
theorem d_0_730 : decode (mB 0) 730 = .ok ((.aload_n 0), 1) := by decide +kernel
theorem d_0_731 : decode (mB 0) 731 = .ok ((.iload_n 3), 1) := by decide +kernel
theorem d_0_732 : decode (mB 0) 732 = .ok ((.iconst 3), 1) := by decide +kernel
theorem d_0_733 : decode (mB 0) 733 = .ok (.iadd, 1) := by decide +kernel
theorem d_0_734 : decode (mB 0) 734 = .ok (.iaload, 1) := by decide +kernel
theorem d_0_735 : decode (mB 0) 735 = .ok ((.invokevirtual 90), 3) := by decide +kernel
theorem d_0_738 : decode (mB 0) 738 = .ok ((.aload_n 2), 1) := by decide +kernel
theorem d_0_739 : decode (mB 0) 739 = .ok ((.aload_n 0), 1) := by decide +kernel
theorem d_0_740 : decode (mB 0) 740 = .ok ((.iload_n 3), 1) := by decide +kernel
theorem d_0_741 : decode (mB 0) 741 = .ok ((.iconst 1), 1) := by decide +kernel
theorem d_0_742 : decode (mB 0) 742 = .ok (.iadd, 1) := by decide +kernel
theorem d_0_743 : decode (mB 0) 743 = .ok (.iaload, 1) := by decide +kernel
theorem d_0_744 : decode (mB 0) 744 = .ok ((.aload_n 0), 1) := by decide +kernel
theorem d_0_745 : decode (mB 0) 745 = .ok ((.iload_n 3), 1) := by decide +kernel
theorem d_0_746 : decode (mB 0) 746 = .ok ((.iconst 2), 1) := by decide +kernel
theorem d_0_747 : decode (mB 0) 747 = .ok (.iadd, 1) := by decide +kernel
theorem d_0_748 : decode (mB 0) 748 = .ok (.iaload, 1) := by decide +kernel
theorem d_0_749 : decode (mB 0) 749 = .ok ((.aload_n 0), 1) := by decide +kernel
theorem d_0_750 : decode (mB 0) 750 = .ok ((.iload_n 3), 1) := by decide +kernel
theorem d_0_751 : decode (mB 0) 751 = .ok ((.iconst 3), 1) := by decide +kernel
theorem d_0_752 : decode (mB 0) 752 = .ok (.iadd, 1) := by decide +kernel
theorem d_0_753 : decode (mB 0) 753 = .ok (.iaload, 1) := by decide +kernel
theorem d_0_754 : decode (mB 0) 754 = .ok ((.invokevirtual 93), 3) := by decide +kernel
theorem d_0_757 : decode (mB 0) 757 = .ok ((.if_icmp .eq 306), 3) := by decide +kernel
theorem d_0_760 : decode (mB 0) 760 = .ok ((.iconst 0), 1) := by decide +kernel
theorem d_0_761 : decode (mB 0) 761 = .ok (.ireturn, 1) := by decide +kernel
theorem d_0_762 : decode (mB 0) 762 = .ok ((.aload_n 1), 1) := by decide +kernel
theorem d_0_763 : decode (mB 0) 763 = .ok ((.invokevirtual 94), 3) := by decide +kernel
theorem d_0_766 : decode (mB 0) 766 = .ok ((.aload_n 2), 1) := by decide +kernel
theorem d_0_767 : decode (mB 0) 767 = .ok ((.invokevirtual 97), 3) := by decide +kernel
theorem d_0_770 : decode (mB 0) 770 = .ok ((.if_icmp .eq 293), 3) := by decide +kernel
theorem d_0_773 : decode (mB 0) 773 = .ok ((.iconst 0), 1) := by decide +kernel
theorem d_0_774 : decode (mB 0) 774 = .ok (.ireturn, 1) := by decide +kernel
theorem d_0_775 : decode (mB 0) 775 = .ok ((.aload_n 1), 1) := by decide +kernel
theorem d_0_776 : decode (mB 0) 776 = .ok ((.invokevirtual 98), 3) := by decide +kernel
theorem d_0_779 : decode (mB 0) 779 = .ok ((.aload_n 2), 1) := by decide +kernel
theorem d_0_780 : decode (mB 0) 780 = .ok ((.invokevirtual 101), 3) := by decide +kernel
theorem d_0_783 : decode (mB 0) 783 = .ok ((.if_icmp .eq 280), 3) := by decide +kernel
theorem d_0_786 : decode (mB 0) 786 = .ok ((.iconst 0), 1) := by decide +kernel
theorem d_0_787 : decode (mB 0) 787 = .ok (.ireturn, 1) := by decide +kernel
theorem d_0_788 : decode (mB 0) 788 = .ok ((.aload_n 1), 1) := by decide +kernel
theorem d_0_789 : decode (mB 0) 789 = .ok ((.aload_n 0), 1) := by decide +kernel
theorem d_0_790 : decode (mB 0) 790 = .ok ((.iload_n 3), 1) := by decide +kernel
theorem d_0_791 : decode (mB 0) 791 = .ok ((.iconst 1), 1) := by decide +kernel
theorem d_0_792 : decode (mB 0) 792 = .ok (.iadd, 1) := by decide +kernel
theorem d_0_793 : decode (mB 0) 793 = .ok (.iaload, 1) := by decide +kernel
theorem d_0_794 : decode (mB 0) 794 = .ok ((.ifCond .eq 7), 3) := by decide +kernel
theorem d_0_797 : decode (mB 0) 797 = .ok ((.iconst 1), 1) := by decide +kernel
theorem d_0_798 : decode (mB 0) 798 = .ok ((.goto 4), 3) := by decide +kernel
theorem d_0_801 : decode (mB 0) 801 = .ok ((.iconst 0), 1) := by decide +kernel
theorem d_0_802 : decode (mB 0) 802 = .ok ((.invokevirtual 102), 3) := by decide +kernel
theorem d_0_805 : decode (mB 0) 805 = .ok ((.aload_n 2), 1) := by decide +kernel
theorem d_0_806 : decode (mB 0) 806 = .ok ((.aload_n 0), 1) := by decide +kernel
theorem d_0_807 : decode (mB 0) 807 = .ok ((.iload_n 3), 1) := by decide +kernel
theorem d_0_808 : decode (mB 0) 808 = .ok ((.iconst 1), 1) := by decide +kernel
theorem d_0_809 : decode (mB 0) 809 = .ok (.iadd, 1) := by decide +kernel
theorem d_0_810 : decode (mB 0) 810 = .ok (.iaload, 1) := by decide +kernel
theorem d_0_811 : decode (mB 0) 811 = .ok ((.ifCond .eq 7), 3) := by decide +kernel
theorem d_0_814 : decode (mB 0) 814 = .ok ((.iconst 1), 1) := by decide +kernel
theorem d_0_815 : decode (mB 0) 815 = .ok ((.goto 4), 3) := by decide +kernel
theorem d_0_818 : decode (mB 0) 818 = .ok ((.iconst 0), 1) := by decide +kernel
theorem d_0_819 : decode (mB 0) 819 = .ok ((.invokevirtual 106), 3) := by decide +kernel
theorem d_0_822 : decode (mB 0) 822 = .ok ((.if_icmp .eq 241), 3) := by decide +kernel
theorem d_0_825 : decode (mB 0) 825 = .ok ((.iconst 0), 1) := by decide +kernel
theorem d_0_826 : decode (mB 0) 826 = .ok (.ireturn, 1) := by decide +kernel
theorem d_0_827 : decode (mB 0) 827 = .ok ((.aload_n 1), 1) := by decide +kernel
theorem d_0_828 : decode (mB 0) 828 = .ok ((.aload_n 0), 1) := by decide +kernel
theorem d_0_829 : decode (mB 0) 829 = .ok ((.iload_n 3), 1) := by decide +kernel
theorem d_0_830 : decode (mB 0) 830 = .ok ((.iconst 1), 1) := by decide +kernel
theorem d_0_831 : decode (mB 0) 831 = .ok (.iadd, 1) := by decide +kernel
theorem d_0_832 : decode (mB 0) 832 = .ok (.iaload, 1) := by decide +kernel
theorem d_0_833 : decode (mB 0) 833 = .ok ((.aload_n 0), 1) := by decide +kernel
theorem d_0_834 : decode (mB 0) 834 = .ok ((.iload_n 3), 1) := by decide +kernel
theorem d_0_835 : decode (mB 0) 835 = .ok ((.iconst 2), 1) := by decide +kernel
theorem d_0_836 : decode (mB 0) 836 = .ok (.iadd, 1) := by decide +kernel
theorem d_0_837 : decode (mB 0) 837 = .ok (.iaload, 1) := by decide +kernel
theorem d_0_838 : decode (mB 0) 838 = .ok ((.aload_n 0), 1) := by decide +kernel
theorem d_0_839 : decode (mB 0) 839 = .ok ((.iload_n 3), 1) := by decide +kernel
theorem d_0_840 : decode (mB 0) 840 = .ok ((.iconst 3), 1) := by decide +kernel
theorem d_0_841 : decode (mB 0) 841 = .ok (.iadd, 1) := by decide +kernel
theorem d_0_842 : decode (mB 0) 842 = .ok (.iaload, 1) := by decide +kernel
theorem d_0_843 : decode (mB 0) 843 = .ok ((.aload_n 0), 1) := by decide +kernel
theorem d_0_844 : decode (mB 0) 844 = .ok ((.iload_n 3), 1) := by decide +kernel
theorem d_0_845 : decode (mB 0) 845 = .ok ((.iconst 4), 1) := by decide +kernel
theorem d_0_846 : decode (mB 0) 846 = .ok (.iadd, 1) := by decide +kernel
theorem d_0_847 : decode (mB 0) 847 = .ok (.iaload, 1) := by decide +kernel
theorem d_0_848 : decode (mB 0) 848 = .ok ((.aload_n 0), 1) := by decide +kernel
theorem d_0_849 : decode (mB 0) 849 = .ok ((.iload_n 3), 1) := by decide +kernel
theorem d_0_850 : decode (mB 0) 850 = .ok ((.iconst 5), 1) := by decide +kernel
theorem d_0_851 : decode (mB 0) 851 = .ok (.iadd, 1) := by decide +kernel
theorem d_0_852 : decode (mB 0) 852 = .ok (.iaload, 1) := by decide +kernel
theorem d_0_853 : decode (mB 0) 853 = .ok ((.ifCond .eq 7), 3) := by decide +kernel
theorem d_0_856 : decode (mB 0) 856 = .ok ((.iconst 1), 1) := by decide +kernel
theorem d_0_857 : decode (mB 0) 857 = .ok ((.goto 4), 3) := by decide +kernel
theorem d_0_860 : decode (mB 0) 860 = .ok ((.iconst 0), 1) := by decide +kernel
theorem d_0_861 : decode (mB 0) 861 = .ok ((.invokevirtual 107), 3) := by decide +kernel
theorem d_0_864 : decode (mB 0) 864 = .ok ((.aload_n 2), 1) := by decide +kernel
theorem d_0_865 : decode (mB 0) 865 = .ok ((.aload_n 0), 1) := by decide +kernel
theorem d_0_866 : decode (mB 0) 866 = .ok ((.iload_n 3), 1) := by decide +kernel
theorem d_0_867 : decode (mB 0) 867 = .ok ((.iconst 1), 1) := by decide +kernel
theorem d_0_868 : decode (mB 0) 868 = .ok (.iadd, 1) := by decide +kernel
theorem d_0_869 : decode (mB 0) 869 = .ok (.iaload, 1) := by decide +kernel
theorem d_0_870 : decode (mB 0) 870 = .ok ((.aload_n 0), 1) := by decide +kernel
theorem d_0_871 : decode (mB 0) 871 = .ok ((.iload_n 3), 1) := by decide +kernel
theorem d_0_872 : decode (mB 0) 872 = .ok ((.iconst 2), 1) := by decide +kernel
theorem d_0_873 : decode (mB 0) 873 = .ok (.iadd, 1) := by decide +kernel
theorem d_0_874 : decode (mB 0) 874 = .ok (.iaload, 1) := by decide +kernel
theorem d_0_875 : decode (mB 0) 875 = .ok ((.aload_n 0), 1) := by decide +kernel
theorem d_0_876 : decode (mB 0) 876 = .ok ((.iload_n 3), 1) := by decide +kernel
theorem d_0_877 : decode (mB 0) 877 = .ok ((.iconst 3), 1) := by decide +kernel
theorem d_0_878 : decode (mB 0) 878 = .ok (.iadd, 1) := by decide +kernel
theorem d_0_879 : decode (mB 0) 879 = .ok (.iaload, 1) := by decide +kernel
theorem d_0_880 : decode (mB 0) 880 = .ok ((.aload_n 0), 1) := by decide +kernel
theorem d_0_881 : decode (mB 0) 881 = .ok ((.iload_n 3), 1) := by decide +kernel
theorem d_0_882 : decode (mB 0) 882 = .ok ((.iconst 4), 1) := by decide +kernel
theorem d_0_883 : decode (mB 0) 883 = .ok (.iadd, 1) := by decide +kernel
theorem d_0_884 : decode (mB 0) 884 = .ok (.iaload, 1) := by decide +kernel
theorem d_0_885 : decode (mB 0) 885 = .ok ((.aload_n 0), 1) := by decide +kernel
theorem d_0_886 : decode (mB 0) 886 = .ok ((.iload_n 3), 1) := by decide +kernel
theorem d_0_887 : decode (mB 0) 887 = .ok ((.iconst 5), 1) := by decide +kernel
theorem d_0_888 : decode (mB 0) 888 = .ok (.iadd, 1) := by decide +kernel
theorem d_0_889 : decode (mB 0) 889 = .ok (.iaload, 1) := by decide +kernel
theorem d_0_890 : decode (mB 0) 890 = .ok ((.ifCond .eq 7), 3) := by decide +kernel
theorem d_0_893 : decode (mB 0) 893 = .ok ((.iconst 1), 1) := by decide +kernel
theorem d_0_894 : decode (mB 0) 894 = .ok ((.goto 4), 3) := by decide +kernel
theorem d_0_897 : decode (mB 0) 897 = .ok ((.iconst 0), 1) := by decide +kernel
theorem d_0_898 : decode (mB 0) 898 = .ok ((.invokevirtual 111), 3) := by decide +kernel
theorem d_0_901 : decode (mB 0) 901 = .ok (.lcmp, 1) := by decide +kernel
theorem d_0_902 : decode (mB 0) 902 = .ok ((.ifCond .eq 161), 3) := by decide +kernel
theorem d_0_905 : decode (mB 0) 905 = .ok ((.iconst 0), 1) := by decide +kernel
theorem d_0_906 : decode (mB 0) 906 = .ok (.ireturn, 1) := by decide +kernel
theorem d_0_907 : decode (mB 0) 907 = .ok ((.aload_n 1), 1) := by decide +kernel
theorem d_0_908 : decode (mB 0) 908 = .ok ((.aload_n 0), 1) := by decide +kernel
theorem d_0_909 : decode (mB 0) 909 = .ok ((.iload_n 3), 1) := by decide +kernel
theorem d_0_910 : decode (mB 0) 910 = .ok ((.iconst 1), 1) := by decide +kernel
theorem d_0_911 : decode (mB 0) 911 = .ok (.iadd, 1) := by decide +kernel
theorem d_0_912 : decode (mB 0) 912 = .ok (.iaload, 1) := by decide +kernel
theorem d_0_913 : decode (mB 0) 913 = .ok (.i2l, 1) := by decide +kernel
theorem d_0_914 : decode (mB 0) 914 = .ok ((.bipush 32), 2) := by decide +kernel
theorem d_0_916 : decode (mB 0) 916 = .ok (.lshl, 1) := by decide +kernel
theorem d_0_917 : decode (mB 0) 917 = .ok ((.aload_n 0), 1) := by decide +kernel
theorem d_0_918 : decode (mB 0) 918 = .ok ((.iload_n 3), 1) := by decide +kernel
theorem d_0_919 : decode (mB 0) 919 = .ok ((.iconst 2), 1) := by decide +kernel
theorem d_0_920 : decode (mB 0) 920 = .ok (.iadd, 1) := by decide +kernel
theorem d_0_921 : decode (mB 0) 921 = .ok (.iaload, 1) := by decide +kernel
theorem d_0_922 : decode (mB 0) 922 = .ok (.i2l, 1) := by decide +kernel
theorem d_0_923 : decode (mB 0) 923 = .ok ((.ldc2_w 13), 3) := by decide +kernel
theorem d_0_926 : decode (mB 0) 926 = .ok (.land, 1) := by decide +kernel
theorem d_0_927 : decode (mB 0) 927 = .ok (.lor, 1) := by decide +kernel
theorem d_0_928 : decode (mB 0) 928 = .ok ((.invokevirtual 112), 3) := by decide +kernel
theorem d_0_931 : decode (mB 0) 931 = .ok ((.aload_n 2), 1) := by decide +kernel
theorem d_0_932 : decode (mB 0) 932 = .ok ((.aload_n 0), 1) := by decide +kernel
theorem d_0_933 : decode (mB 0) 933 = .ok ((.iload_n 3), 1) := by decide +kernel
theorem d_0_934 : decode (mB 0) 934 = .ok ((.iconst 1), 1) := by decide +kernel
theorem d_0_935 : decode (mB 0) 935 = .ok (.iadd, 1) := by decide +kernel
theorem d_0_936 : decode (mB 0) 936 = .ok (.iaload, 1) := by decide +kernel
theorem d_0_937 : decode (mB 0) 937 = .ok (.i2l, 1) := by decide +kernel
theorem d_0_938 : decode (mB 0) 938 = .ok ((.bipush 32), 2) := by decide +kernel
theorem d_0_940 : decode (mB 0) 940 = .ok (.lshl, 1) := by decide +kernel
theorem d_0_941 : decode (mB 0) 941 = .ok ((.aload_n 0), 1) := by decide +kernel
theorem d_0_942 : decode (mB 0) 942 = .ok ((.iload_n 3), 1) := by decide +kernel
theorem d_0_943 : decode (mB 0) 943 = .ok ((.iconst 2), 1) := by decide +kernel
theorem d_0_944 : decode (mB 0) 944 = .ok (.iadd, 1) := by decide +kernel
theorem d_0_945 : decode (mB 0) 945 = .ok (.iaload, 1) := by decide +kernel
theorem d_0_946 : decode (mB 0) 946 = .ok (.i2l, 1) := by decide +kernel
theorem d_0_947 : decode (mB 0) 947 = .ok ((.ldc2_w 13), 3) := by decide +kernel
theorem d_0_950 : decode (mB 0) 950 = .ok (.land, 1) := by decide +kernel
theorem d_0_951 : decode (mB 0) 951 = .ok (.lor, 1) := by decide +kernel
theorem d_0_952 : decode (mB 0) 952 = .ok ((.invokevirtual 116), 3) := by decide +kernel
theorem d_0_955 : decode (mB 0) 955 = .ok (.lcmp, 1) := by decide +kernel
theorem d_0_956 : decode (mB 0) 956 = .ok ((.ifCond .eq 107), 3) := by decide +kernel
theorem d_0_959 : decode (mB 0) 959 = .ok ((.iconst 0), 1) := by decide +kernel
theorem d_0_960 : decode (mB 0) 960 = .ok (.ireturn, 1) := by decide +kernel
theorem d_0_961 : decode (mB 0) 961 = .ok ((.aload_n 1), 1) := by decide +kernel
theorem d_0_962 : decode (mB 0) 962 = .ok ((.aload_n 0), 1) := by decide +kernel
theorem d_0_963 : decode (mB 0) 963 = .ok ((.iload_n 3), 1) := by decide +kernel
theorem d_0_964 : decode (mB 0) 964 = .ok ((.iconst 1), 1) := by decide +kernel
theorem d_0_965 : decode (mB 0) 965 = .ok (.iadd, 1) := by decide +kernel
theorem d_0_966 : decode (mB 0) 966 = .ok (.iaload, 1) := by decide +kernel
theorem d_0_967 : decode (mB 0) 967 = .ok ((.aload_n 0), 1) := by decide +kernel
theorem d_0_968 : decode (mB 0) 968 = .ok ((.iload_n 3), 1) := by decide +kernel
theorem d_0_969 : decode (mB 0) 969 = .ok ((.iconst 2), 1) := by decide +kernel
theorem d_0_970 : decode (mB 0) 970 = .ok (.iadd, 1) := by decide +kernel
theorem d_0_971 : decode (mB 0) 971 = .ok (.iaload, 1) := by decide +kernel
theorem d_0_972 : decode (mB 0) 972 = .ok ((.invokevirtual 117), 3) := by decide +kernel
theorem d_0_975 : decode (mB 0) 975 = .ok ((.aload_n 2), 1) := by decide +kernel
theorem d_0_976 : decode (mB 0) 976 = .ok ((.aload_n 0), 1) := by decide +kernel
theorem d_0_977 : decode (mB 0) 977 = .ok ((.iload_n 3), 1) := by decide +kernel
theorem d_0_978 : decode (mB 0) 978 = .ok ((.iconst 1), 1) := by decide +kernel
theorem d_0_979 : decode (mB 0) 979 = .ok (.iadd, 1) := by decide +kernel
theorem d_0_980 : decode (mB 0) 980 = .ok (.iaload, 1) := by decide +kernel
theorem d_0_981 : decode (mB 0) 981 = .ok ((.aload_n 0), 1) := by decide +kernel
theorem d_0_982 : decode (mB 0) 982 = .ok ((.iload_n 3), 1) := by decide +kernel
theorem d_0_983 : decode (mB 0) 983 = .ok ((.iconst 2), 1) := by decide +kernel
theorem d_0_984 : decode (mB 0) 984 = .ok (.iadd, 1) := by decide +kernel
theorem d_0_985 : decode (mB 0) 985 = .ok (.iaload, 1) := by decide +kernel
theorem d_0_986 : decode (mB 0) 986 = .ok ((.invokevirtual 120), 3) := by decide +kernel
theorem d_0_989 : decode (mB 0) 989 = .ok ((.if_icmp .eq 74), 3) := by decide +kernel
theorem d_0_992 : decode (mB 0) 992 = .ok ((.iconst 0), 1) := by decide +kernel
theorem d_0_993 : decode (mB 0) 993 = .ok (.ireturn, 1) := by decide +kernel
theorem d_0_994 : decode (mB 0) 994 = .ok ((.aload_n 1), 1) := by decide +kernel
theorem d_0_995 : decode (mB 0) 995 = .ok ((.aload_n 0), 1) := by decide +kernel
theorem d_0_996 : decode (mB 0) 996 = .ok ((.iload_n 3), 1) := by decide +kernel
theorem d_0_997 : decode (mB 0) 997 = .ok ((.iconst 1), 1) := by decide +kernel
theorem d_0_998 : decode (mB 0) 998 = .ok (.iadd, 1) := by decide +kernel
theorem d_0_999 : decode (mB 0) 999 = .ok (.iaload, 1) := by decide +kernel
theorem d_0_1000 : decode (mB 0) 1000 = .ok ((.invokevirtual 121), 3) := by decide +kernel
theorem d_0_1003 : decode (mB 0) 1003 = .ok ((.aload_n 2), 1) := by decide +kernel
theorem d_0_1004 : decode (mB 0) 1004 = .ok ((.aload_n 0), 1) := by decide +kernel
theorem d_0_1005 : decode (mB 0) 1005 = .ok ((.iload_n 3), 1) := by decide +kernel
theorem d_0_1006 : decode (mB 0) 1006 = .ok ((.iconst 1), 1) := by decide +kernel
theorem d_0_1007 : decode (mB 0) 1007 = .ok (.iadd, 1) := by decide +kernel
theorem d_0_1008 : decode (mB 0) 1008 = .ok (.iaload, 1) := by decide +kernel
theorem d_0_1009 : decode (mB 0) 1009 = .ok ((.invokevirtual 124), 3) := by decide +kernel
theorem d_0_1012 : decode (mB 0) 1012 = .ok ((.if_icmp .eq 51), 3) := by decide +kernel
theorem d_0_1015 : decode (mB 0) 1015 = .ok ((.iconst 0), 1) := by decide +kernel
theorem d_0_1016 : decode (mB 0) 1016 = .ok (.ireturn, 1) := by decide +kernel
theorem d_0_1017 : decode (mB 0) 1017 = .ok ((.aload_n 1), 1) := by decide +kernel
theorem d_0_1018 : decode (mB 0) 1018 = .ok ((.aload_n 0), 1) := by decide +kernel
theorem d_0_1019 : decode (mB 0) 1019 = .ok ((.iload_n 3), 1) := by decide +kernel
theorem d_0_1020 : decode (mB 0) 1020 = .ok ((.iconst 1), 1) := by decide +kernel
theorem d_0_1021 : decode (mB 0) 1021 = .ok (.iadd, 1) := by decide +kernel
theorem d_0_1022 : decode (mB 0) 1022 = .ok (.iaload, 1) := by decide +kernel
theorem d_0_1023 : decode (mB 0) 1023 = .ok ((.invokevirtual 125), 3) := by decide +kernel
theorem d_0_1026 : decode (mB 0) 1026 = .ok ((.aload_n 2), 1) := by decide +kernel
theorem d_0_1027 : decode (mB 0) 1027 = .ok ((.aload_n 0), 1) := by decide +kernel
theorem d_0_1028 : decode (mB 0) 1028 = .ok ((.iload_n 3), 1) := by decide +kernel
theorem d_0_1029 : decode (mB 0) 1029 = .ok ((.iconst 1), 1) := by decide +kernel
theorem d_0_1030 : decode (mB 0) 1030 = .ok (.iadd, 1) := by decide +kernel
theorem d_0_1031 : decode (mB 0) 1031 = .ok (.iaload, 1) := by decide +kernel
theorem d_0_1032 : decode (mB 0) 1032 = .ok ((.invokevirtual 128), 3) := by decide +kernel
theorem d_0_1035 : decode (mB 0) 1035 = .ok ((.if_icmp .eq 28), 3) := by decide +kernel
theorem d_0_1038 : decode (mB 0) 1038 = .ok ((.iconst 0), 1) := by decide +kernel
theorem d_0_1039 : decode (mB 0) 1039 = .ok (.ireturn, 1) := by decide +kernel
theorem d_0_1040 : decode (mB 0) 1040 = .ok ((.aload_n 1), 1) := by decide +kernel
theorem d_0_1041 : decode (mB 0) 1041 = .ok ((.aload_n 0), 1) := by decide +kernel
theorem d_0_1042 : decode (mB 0) 1042 = .ok ((.iload_n 3), 1) := by decide +kernel
theorem d_0_1043 : decode (mB 0) 1043 = .ok ((.iconst 1), 1) := by decide +kernel
theorem d_0_1044 : decode (mB 0) 1044 = .ok (.iadd, 1) := by decide +kernel
theorem d_0_1045 : decode (mB 0) 1045 = .ok (.iaload, 1) := by decide +kernel
theorem d_0_1046 : decode (mB 0) 1046 = .ok ((.invokevirtual 129), 3) := by decide +kernel
theorem d_0_1049 : decode (mB 0) 1049 = .ok ((.aload_n 2), 1) := by decide +kernel
theorem d_0_1050 : decode (mB 0) 1050 = .ok ((.aload_n 0), 1) := by decide +kernel
theorem d_0_1051 : decode (mB 0) 1051 = .ok ((.iload_n 3), 1) := by decide +kernel
theorem d_0_1052 : decode (mB 0) 1052 = .ok ((.iconst 1), 1) := by decide +kernel
theorem d_0_1053 : decode (mB 0) 1053 = .ok (.iadd, 1) := by decide +kernel
theorem d_0_1054 : decode (mB 0) 1054 = .ok (.iaload, 1) := by decide +kernel
theorem d_0_1055 : decode (mB 0) 1055 = .ok ((.invokevirtual 132), 3) := by decide +kernel
theorem d_0_1058 : decode (mB 0) 1058 = .ok ((.if_icmp .eq 5), 3) := by decide +kernel
theorem d_0_1061 : decode (mB 0) 1061 = .ok ((.iconst 0), 1) := by decide +kernel
theorem d_0_1062 : decode (mB 0) 1062 = .ok (.ireturn, 1) := by decide +kernel
theorem d_0_1063 : decode (mB 0) 1063 = .ok ((.iinc 3 6), 3) := by decide +kernel
theorem d_0_1066 : decode (mB 0) 1066 = .ok ((.goto (-1048)), 3) := by decide +kernel
theorem d_0_1069 : decode (mB 0) 1069 = .ok ((.iconst 1), 1) := by decide +kernel
theorem d_0_1070 : decode (mB 0) 1070 = .ok (.ireturn, 1) := by decide +kernel
theorem d_1_0 : decode (mB 1) 0 = .ok ((.aload_n 0), 1) := by decide +kernel
theorem d_1_1 : decode (mB 1) 1 = .ok ((.invokespecial 3), 3) := by decide +kernel
theorem d_1_4 : decode (mB 1) 4 = .ok ((.aload_n 0), 1) := by decide +kernel
theorem d_1_5 : decode (mB 1) 5 = .ok ((.new 9), 3) := by decide +kernel
theorem d_1_8 : decode (mB 1) 8 = .ok (.dup, 1) := by decide +kernel
theorem d_1_9 : decode (mB 1) 9 = .ok ((.bipush 12), 2) := by decide +kernel
theorem d_1_11 : decode (mB 1) 11 = .ok ((.invokespecial 11), 3) := by decide +kernel
theorem d_1_14 : decode (mB 1) 14 = .ok ((.putfield 14), 3) := by decide +kernel
theorem d_1_17 : decode (mB 1) 17 = .ok ((.aload_n 0), 1) := by decide +kernel
theorem d_1_18 : decode (mB 1) 18 = .ok ((.iconst 0), 1) := by decide +kernel
theorem d_1_19 : decode (mB 1) 19 = .ok ((.putfield 20), 3) := by decide +kernel
theorem d_1_22 : decode (mB 1) 22 = .ok ((.aload_n 0), 1) := by decide +kernel
theorem d_1_23 : decode (mB 1) 23 = .ok ((.iconst 0), 1) := by decide +kernel
theorem d_1_24 : decode (mB 1) 24 = .ok ((.putfield 24), 3) := by decide +kernel
theorem d_1_27 : decode (mB 1) 27 = .ok (.return_, 1) := by decide +kernel
theorem d_2_0 : decode (mB 2) 0 = .ok ((.aload_n 0), 1) := by decide +kernel
theorem d_2_1 : decode (mB 2) 1 = .ok ((.iconst 0), 1) := by decide +kernel
theorem d_2_2 : decode (mB 2) 2 = .ok ((.putfield 24), 3) := by decide +kernel
theorem d_2_5 : decode (mB 2) 5 = .ok (.return_, 1) := by decide +kernel
theorem d_3_0 : decode (mB 3) 0 = .ok ((.aload_n 0), 1) := by decide +kernel
theorem d_3_1 : decode (mB 3) 1 = .ok ((.getfield 14), 3) := by decide +kernel
theorem d_3_4 : decode (mB 3) 4 = .ok ((.aload_n 0), 1) := by decide +kernel
theorem d_3_5 : decode (mB 3) 5 = .ok ((.getfield 20), 3) := by decide +kernel
theorem d_3_8 : decode (mB 3) 8 = .ok ((.aload_n 1), 1) := by decide +kernel
theorem d_3_9 : decode (mB 3) 9 = .ok ((.invokevirtual 27), 3) := by decide +kernel
theorem d_3_12 : decode (mB 3) 12 = .ok ((.aload_n 0), 1) := by decide +kernel
theorem d_3_13 : decode (mB 3) 13 = .ok ((.aload_n 0), 1) := by decide +kernel
theorem d_3_14 : decode (mB 3) 14 = .ok ((.getfield 20), 3) := by decide +kernel
theorem d_3_17 : decode (mB 3) 17 = .ok ((.bipush 11), 2) := by decide +kernel
theorem d_3_19 : decode (mB 3) 19 = .ok ((.if_icmp .ne 7), 3) := by decide +kernel
theorem d_3_22 : decode (mB 3) 22 = .ok ((.iconst 0), 1) := by decide +kernel
theorem d_3_23 : decode (mB 3) 23 = .ok ((.goto 9), 3) := by decide +kernel
theorem d_3_26 : decode (mB 3) 26 = .ok ((.aload_n 0), 1) := by decide +kernel
theorem d_3_27 : decode (mB 3) 27 = .ok ((.getfield 20), 3) := by decide +kernel
theorem d_3_30 : decode (mB 3) 30 = .ok ((.iconst 1), 1) := by decide +kernel
theorem d_3_31 : decode (mB 3) 31 = .ok (.iadd, 1) := by decide +kernel
theorem d_3_32 : decode (mB 3) 32 = .ok ((.putfield 20), 3) := by decide +kernel
theorem d_3_35 : decode (mB 3) 35 = .ok ((.aload_n 0), 1) := by decide +kernel
theorem d_3_36 : decode (mB 3) 36 = .ok ((.aload_n 0), 1) := by decide +kernel
theorem d_3_37 : decode (mB 3) 37 = .ok ((.getfield 24), 3) := by decide +kernel
theorem d_3_40 : decode (mB 3) 40 = .ok ((.iconst 1), 1) := by decide +kernel
theorem d_3_41 : decode (mB 3) 41 = .ok (.iadd, 1) := by decide +kernel
theorem d_3_42 : decode (mB 3) 42 = .ok ((.bipush 12), 2) := by decide +kernel
theorem d_3_44 : decode (mB 3) 44 = .ok ((.invokestatic 31), 3) := by decide +kernel
theorem d_3_47 : decode (mB 3) 47 = .ok ((.putfield 24), 3) := by decide +kernel
theorem d_3_50 : decode (mB 3) 50 = .ok (.return_, 1) := by decide +kernel
theorem d_4_0 : decode (mB 4) 0 = .ok ((.aload_n 0), 1) := by decide +kernel
theorem d_4_1 : decode (mB 4) 1 = .ok ((.getfield 24), 3) := by decide +kernel
theorem d_4_4 : decode (mB 4) 4 = .ok (.ireturn, 1) := by decide +kernel
theorem d_5_0 : decode (mB 5) 0 = .ok ((.aload_n 0), 1) := by decide +kernel
theorem d_5_1 : decode (mB 5) 1 = .ok ((.getfield 24), 3) := by decide +kernel
theorem d_5_4 : decode (mB 5) 4 = .ok ((.iconst 1), 1) := by decide +kernel
theorem d_5_5 : decode (mB 5) 5 = .ok ((.if_icmp .ge 4), 3) := by decide +kernel
theorem d_5_8 : decode (mB 5) 8 = .ok (.return_, 1) := by decide +kernel
theorem d_5_9 : decode (mB 5) 9 = .ok ((.aload_n 0), 1) := by decide +kernel
theorem d_5_10 : decode (mB 5) 10 = .ok ((.aload_n 0), 1) := by decide +kernel
theorem d_5_11 : decode (mB 5) 11 = .ok ((.getfield 20), 3) := by decide +kernel
theorem d_5_14 : decode (mB 5) 14 = .ok ((.ifCond .ne 8), 3) := by decide +kernel
theorem d_5_17 : decode (mB 5) 17 = .ok ((.bipush 11), 2) := by decide +kernel
theorem d_5_19 : decode (mB 5) 19 = .ok ((.goto 9), 3) := by decide +kernel
theorem d_5_22 : decode (mB 5) 22 = .ok ((.aload_n 0), 1) := by decide +kernel
theorem d_5_23 : decode (mB 5) 23 = .ok ((.getfield 20), 3) := by decide +kernel
theorem d_5_26 : decode (mB 5) 26 = .ok ((.iconst 1), 1) := by decide +kernel
theorem d_5_27 : decode (mB 5) 27 = .ok (.isub, 1) := by decide +kernel
theorem d_5_28 : decode (mB 5) 28 = .ok ((.putfield 20), 3) := by decide +kernel
theorem d_5_31 : decode (mB 5) 31 = .ok ((.aload_n 0), 1) := by decide +kernel
theorem d_5_32 : decode (mB 5) 32 = .ok (.dup, 1) := by decide +kernel
theorem d_5_33 : decode (mB 5) 33 = .ok ((.getfield 24), 3) := by decide +kernel
theorem d_5_36 : decode (mB 5) 36 = .ok ((.iconst 1), 1) := by decide +kernel
theorem d_5_37 : decode (mB 5) 37 = .ok (.isub, 1) := by decide +kernel
theorem d_5_38 : decode (mB 5) 38 = .ok ((.putfield 24), 3) := by decide +kernel
theorem d_5_41 : decode (mB 5) 41 = .ok ((.aload_n 1), 1) := by decide +kernel
theorem d_5_42 : decode (mB 5) 42 = .ok ((.aload_n 0), 1) := by decide +kernel
theorem d_5_43 : decode (mB 5) 43 = .ok ((.getfield 14), 3) := by decide +kernel
theorem d_5_46 : decode (mB 5) 46 = .ok ((.aload_n 0), 1) := by decide +kernel
theorem d_5_47 : decode (mB 5) 47 = .ok ((.getfield 20), 3) := by decide +kernel
theorem d_5_50 : decode (mB 5) 50 = .ok ((.invokevirtual 37), 3) := by decide +kernel
theorem d_5_53 : decode (mB 5) 53 = .ok ((.invokevirtual 41), 3) := by decide +kernel
theorem d_5_56 : decode (mB 5) 56 = .ok (.return_, 1) := by decide +kernel
theorem d_6_0 : decode (mB 6) 0 = .ok ((.aload_n 0), 1) := by decide +kernel
theorem d_6_1 : decode (mB 6) 1 = .ok ((.invokespecial 3), 3) := by decide +kernel
theorem d_6_4 : decode (mB 6) 4 = .ok ((.aload_n 0), 1) := by decide +kernel
theorem d_6_5 : decode (mB 6) 5 = .ok ((.bipush 6), 2) := by decide +kernel
theorem d_6_7 : decode (mB 6) 7 = .ok ((.newarray .int), 2) := by decide +kernel
theorem d_6_9 : decode (mB 6) 9 = .ok ((.putfield 9), 3) := by decide +kernel
theorem d_6_12 : decode (mB 6) 12 = .ok ((.aload_n 0), 1) := by decide +kernel
theorem d_6_13 : decode (mB 6) 13 = .ok ((.bipush 6), 2) := by decide +kernel
theorem d_6_15 : decode (mB 6) 15 = .ok ((.newarray .int), 2) := by decide +kernel
theorem d_6_17 : decode (mB 6) 17 = .ok ((.putfield 15), 3) := by decide +kernel
theorem d_6_20 : decode (mB 6) 20 = .ok ((.aload_n 0), 1) := by decide +kernel
theorem d_6_21 : decode (mB 6) 21 = .ok ((.bipush 6), 2) := by decide +kernel
theorem d_6_23 : decode (mB 6) 23 = .ok ((.newarray .int), 2) := by decide +kernel
theorem d_6_25 : decode (mB 6) 25 = .ok ((.putfield 18), 3) := by decide +kernel
theorem d_6_28 : decode (mB 6) 28 = .ok ((.aload_n 0), 1) := by decide +kernel
theorem d_6_29 : decode (mB 6) 29 = .ok ((.iconst 0), 1) := by decide +kernel
theorem d_6_30 : decode (mB 6) 30 = .ok ((.putfield 21), 3) := by decide +kernel
theorem d_6_33 : decode (mB 6) 33 = .ok ((.aload_n 0), 1) := by decide +kernel
theorem d_6_34 : decode (mB 6) 34 = .ok ((.iconst 0), 1) := by decide +kernel
theorem d_6_35 : decode (mB 6) 35 = .ok ((.putfield 25), 3) := by decide +kernel
theorem d_6_38 : decode (mB 6) 38 = .ok ((.aload_n 0), 1) := by decide +kernel
theorem d_6_39 : decode (mB 6) 39 = .ok ((.iconst 0), 1) := by decide +kernel
theorem d_6_40 : decode (mB 6) 40 = .ok ((.putfield 28), 3) := by decide +kernel
theorem d_6_43 : decode (mB 6) 43 = .ok ((.aload_n 0), 1) := by decide +kernel
theorem d_6_44 : decode (mB 6) 44 = .ok ((.iconst 0), 1) := by decide +kernel
theorem d_6_45 : decode (mB 6) 45 = .ok ((.putfield 31), 3) := by decide +kernel
theorem d_6_48 : decode (mB 6) 48 = .ok (.return_, 1) := by decide +kernel
theorem d_7_0 : decode (mB 7) 0 = .ok ((.aload_n 0), 1) := by decide +kernel
theorem d_7_1 : decode (mB 7) 1 = .ok ((.getfield 21), 3) := by decide +kernel
theorem d_7_4 : decode (mB 7) 4 = .ok ((.bipush 6), 2) := by decide +kernel
theorem d_7_6 : decode (mB 7) 6 = .ok ((.if_icmp .ge 7), 3) := by decide +kernel
theorem d_7_9 : decode (mB 7) 9 = .ok ((.iconst 1), 1) := by decide +kernel
theorem d_7_10 : decode (mB 7) 10 = .ok ((.goto 4), 3) := by decide +kernel
theorem d_7_13 : decode (mB 7) 13 = .ok ((.iconst 0), 1) := by decide +kernel
theorem d_7_14 : decode (mB 7) 14 = .ok (.ireturn, 1) := by decide +kernel
theorem d_8_0 : decode (mB 8) 0 = .ok ((.aload_n 0), 1) := by decide +kernel
theorem d_8_1 : decode (mB 8) 1 = .ok ((.getfield 21), 3) := by decide +kernel
theorem d_8_4 : decode (mB 8) 4 = .ok ((.ifCond .lt 12), 3) := by decide +kernel
theorem d_8_7 : decode (mB 8) 7 = .ok ((.aload_n 0), 1) := by decide +kernel
theorem d_8_8 : decode (mB 8) 8 = .ok ((.getfield 21), 3) := by decide +kernel
theorem d_8_11 : decode (mB 8) 11 = .ok ((.bipush 6), 2) := by decide +kernel
theorem d_8_13 : decode (mB 8) 13 = .ok ((.if_icmp .lt 4), 3) := by decide +kernel
theorem d_8_16 : decode (mB 8) 16 = .ok (.return_, 1) := by decide +kernel
theorem d_8_17 : decode (mB 8) 17 = .ok ((.aload_n 0), 1) := by decide +kernel
theorem d_8_18 : decode (mB 8) 18 = .ok ((.getfield 9), 3) := by decide +kernel
theorem d_8_21 : decode (mB 8) 21 = .ok ((.aload_n 0), 1) := by decide +kernel
theorem d_8_22 : decode (mB 8) 22 = .ok ((.getfield 21), 3) := by decide +kernel
theorem d_8_25 : decode (mB 8) 25 = .ok ((.iload_n 1), 1) := by decide +kernel
theorem d_8_26 : decode (mB 8) 26 = .ok (.iastore, 1) := by decide +kernel
theorem d_8_27 : decode (mB 8) 27 = .ok ((.aload_n 0), 1) := by decide +kernel
theorem d_8_28 : decode (mB 8) 28 = .ok ((.getfield 15), 3) := by decide +kernel
theorem d_8_31 : decode (mB 8) 31 = .ok ((.aload_n 0), 1) := by decide +kernel
theorem d_8_32 : decode (mB 8) 32 = .ok ((.getfield 21), 3) := by decide +kernel
theorem d_8_35 : decode (mB 8) 35 = .ok ((.iload_n 2), 1) := by decide +kernel
theorem d_8_36 : decode (mB 8) 36 = .ok (.iastore, 1) := by decide +kernel
theorem d_8_37 : decode (mB 8) 37 = .ok ((.aload_n 0), 1) := by decide +kernel
theorem d_8_38 : decode (mB 8) 38 = .ok ((.getfield 18), 3) := by decide +kernel
theorem d_8_41 : decode (mB 8) 41 = .ok ((.aload_n 0), 1) := by decide +kernel
theorem d_8_42 : decode (mB 8) 42 = .ok ((.getfield 21), 3) := by decide +kernel
theorem d_8_45 : decode (mB 8) 45 = .ok ((.iload_n 3), 1) := by decide +kernel
theorem d_8_46 : decode (mB 8) 46 = .ok (.iastore, 1) := by decide +kernel
theorem d_8_47 : decode (mB 8) 47 = .ok ((.aload_n 0), 1) := by decide +kernel
theorem d_8_48 : decode (mB 8) 48 = .ok (.dup, 1) := by decide +kernel
theorem d_8_49 : decode (mB 8) 49 = .ok ((.getfield 21), 3) := by decide +kernel
theorem d_8_52 : decode (mB 8) 52 = .ok ((.iconst 1), 1) := by decide +kernel
theorem d_8_53 : decode (mB 8) 53 = .ok (.iadd, 1) := by decide +kernel
theorem d_8_54 : decode (mB 8) 54 = .ok ((.putfield 21), 3) := by decide +kernel
theorem d_8_57 : decode (mB 8) 57 = .ok (.return_, 1) := by decide +kernel
theorem d_9_0 : decode (mB 9) 0 = .ok ((.aload_n 0), 1) := by decide +kernel
theorem d_9_1 : decode (mB 9) 1 = .ok ((.getfield 21), 3) := by decide +kernel
theorem d_9_4 : decode (mB 9) 4 = .ok (.ireturn, 1) := by decide +kernel
theorem d_10_0 : decode (mB 10) 0 = .ok ((.aload_n 0), 1) := by decide +kernel
theorem d_10_1 : decode (mB 10) 1 = .ok ((.iconst 0), 1) := by decide +kernel
theorem d_10_2 : decode (mB 10) 2 = .ok ((.putfield 21), 3) := by decide +kernel
theorem d_10_5 : decode (mB 10) 5 = .ok (.return_, 1) := by decide +kernel
theorem d_11_0 : decode (mB 11) 0 = .ok ((.aload_n 0), 1) := by decide +kernel
theorem d_11_1 : decode (mB 11) 1 = .ok ((.iconst 0), 1) := by decide +kernel
theorem d_11_2 : decode (mB 11) 2 = .ok ((.putfield 25), 3) := by decide +kernel
theorem d_11_5 : decode (mB 11) 5 = .ok ((.aload_n 0), 1) := by decide +kernel
theorem d_11_6 : decode (mB 11) 6 = .ok ((.aload_n 1), 1) := by decide +kernel
theorem d_11_7 : decode (mB 11) 7 = .ok ((.invokevirtual 34), 3) := by decide +kernel
theorem d_11_10 : decode (mB 11) 10 = .ok ((.iconst 1), 1) := by decide +kernel
theorem d_11_11 : decode (mB 11) 11 = .ok (.isub, 1) := by decide +kernel
theorem d_11_12 : decode (mB 11) 12 = .ok ((.putfield 28), 3) := by decide +kernel
theorem d_11_15 : decode (mB 11) 15 = .ok ((.aload_n 0), 1) := by decide +kernel
theorem d_11_16 : decode (mB 11) 16 = .ok ((.iconst 0), 1) := by decide +kernel
theorem d_11_17 : decode (mB 11) 17 = .ok ((.putfield 31), 3) := by decide +kernel
theorem d_11_20 : decode (mB 11) 20 = .ok ((.iconst 0), 1) := by decide +kernel
theorem d_11_21 : decode (mB 11) 21 = .ok ((.istore_n 2), 1) := by decide +kernel
theorem d_11_22 : decode (mB 11) 22 = .ok ((.iload_n 2), 1) := by decide +kernel
theorem d_11_23 : decode (mB 11) 23 = .ok ((.aload_n 1), 1) := by decide +kernel
theorem d_11_24 : decode (mB 11) 24 = .ok ((.invokevirtual 34), 3) := by decide +kernel
theorem d_11_27 : decode (mB 11) 27 = .ok ((.if_icmp .ge 48), 3) := by decide +kernel
theorem d_11_30 : decode (mB 11) 30 = .ok ((.aload_n 0), 1) := by decide +kernel
theorem d_11_31 : decode (mB 11) 31 = .ok ((.aload_n 1), 1) := by decide +kernel
theorem d_11_32 : decode (mB 11) 32 = .ok ((.iload_n 2), 1) := by decide +kernel
theorem d_11_33 : decode (mB 11) 33 = .ok ((.invokevirtual 40), 3) := by decide +kernel
theorem d_11_36 : decode (mB 11) 36 = .ok ((.ifCond .eq 33), 3) := by decide +kernel
theorem d_11_39 : decode (mB 11) 39 = .ok ((.aload_n 0), 1) := by decide +kernel
theorem d_11_40 : decode (mB 11) 40 = .ok (.dup, 1) := by decide +kernel
theorem d_11_41 : decode (mB 11) 41 = .ok ((.getfield 25), 3) := by decide +kernel
theorem d_11_44 : decode (mB 11) 44 = .ok ((.iconst 1), 1) := by decide +kernel
theorem d_11_45 : decode (mB 11) 45 = .ok (.iadd, 1) := by decide +kernel
theorem d_11_46 : decode (mB 11) 46 = .ok ((.putfield 25), 3) := by decide +kernel
theorem d_11_49 : decode (mB 11) 49 = .ok ((.aload_n 0), 1) := by decide +kernel
theorem d_11_50 : decode (mB 11) 50 = .ok (.dup, 1) := by decide +kernel
theorem d_11_51 : decode (mB 11) 51 = .ok ((.getfield 28), 3) := by decide +kernel
theorem d_11_54 : decode (mB 11) 54 = .ok ((.iload_n 2), 1) := by decide +kernel
theorem d_11_55 : decode (mB 11) 55 = .ok (.iand, 1) := by decide +kernel
theorem d_11_56 : decode (mB 11) 56 = .ok ((.putfield 28), 3) := by decide +kernel
theorem d_11_59 : decode (mB 11) 59 = .ok ((.aload_n 0), 1) := by decide +kernel
theorem d_11_60 : decode (mB 11) 60 = .ok (.dup, 1) := by decide +kernel
theorem d_11_61 : decode (mB 11) 61 = .ok ((.getfield 31), 3) := by decide +kernel
theorem d_11_64 : decode (mB 11) 64 = .ok ((.iload_n 2), 1) := by decide +kernel
theorem d_11_65 : decode (mB 11) 65 = .ok (.ior, 1) := by decide +kernel
theorem d_11_66 : decode (mB 11) 66 = .ok ((.putfield 31), 3) := by decide +kernel
theorem d_11_69 : decode (mB 11) 69 = .ok ((.iinc 2 1), 3) := by decide +kernel
theorem d_11_72 : decode (mB 11) 72 = .ok ((.goto (-50)), 3) := by decide +kernel
theorem d_11_75 : decode (mB 11) 75 = .ok (.return_, 1) := by decide +kernel
theorem d_12_0 : decode (mB 12) 0 = .ok ((.iconst 0), 1) := by decide +kernel
theorem d_12_1 : decode (mB 12) 1 = .ok ((.istore_n 3), 1) := by decide +kernel
theorem d_12_2 : decode (mB 12) 2 = .ok ((.iload_n 3), 1) := by decide +kernel
theorem d_12_3 : decode (mB 12) 3 = .ok ((.aload_n 0), 1) := by decide +kernel
theorem d_12_4 : decode (mB 12) 4 = .ok ((.getfield 21), 3) := by decide +kernel
theorem d_12_7 : decode (mB 12) 7 = .ok ((.if_icmp .ge 55), 3) := by decide +kernel
theorem d_12_10 : decode (mB 12) 10 = .ok ((.iload_n 3), 1) := by decide +kernel
theorem d_12_11 : decode (mB 12) 11 = .ok ((.bipush 6), 2) := by decide +kernel
theorem d_12_13 : decode (mB 12) 13 = .ok ((.if_icmp .ge 49), 3) := by decide +kernel
theorem d_12_16 : decode (mB 12) 16 = .ok ((.aload_n 1), 1) := by decide +kernel
theorem d_12_17 : decode (mB 12) 17 = .ok ((.aload_n 0), 1) := by decide +kernel
theorem d_12_18 : decode (mB 12) 18 = .ok ((.getfield 9), 3) := by decide +kernel
theorem d_12_21 : decode (mB 12) 21 = .ok ((.iload_n 3), 1) := by decide +kernel
theorem d_12_22 : decode (mB 12) 22 = .ok (.iaload, 1) := by decide +kernel
theorem d_12_23 : decode (mB 12) 23 = .ok ((.aload_n 0), 1) := by decide +kernel
theorem d_12_24 : decode (mB 12) 24 = .ok ((.getfield 15), 3) := by decide +kernel
theorem d_12_27 : decode (mB 12) 27 = .ok ((.iload_n 3), 1) := by decide +kernel
theorem d_12_28 : decode (mB 12) 28 = .ok (.iaload, 1) := by decide +kernel
theorem d_12_29 : decode (mB 12) 29 = .ok ((.iload_n 2), 1) := by decide +kernel
theorem d_12_30 : decode (mB 12) 30 = .ok ((.invokevirtual 44), 3) := by decide +kernel
theorem d_12_33 : decode (mB 12) 33 = .ok ((.invokevirtual 48), 3) := by decide +kernel
theorem d_12_36 : decode (mB 12) 36 = .ok ((.istore 4), 2) := by decide +kernel
theorem d_12_38 : decode (mB 12) 38 = .ok ((.iload 4), 2) := by decide +kernel
theorem d_12_40 : decode (mB 12) 40 = .ok ((.aload_n 1), 1) := by decide +kernel
theorem d_12_41 : decode (mB 12) 41 = .ok ((.invokevirtual 53), 3) := by decide +kernel
theorem d_12_44 : decode (mB 12) 44 = .ok (.isub, 1) := by decide +kernel
theorem d_12_45 : decode (mB 12) 45 = .ok ((.aload_n 0), 1) := by decide +kernel
theorem d_12_46 : decode (mB 12) 46 = .ok ((.getfield 18), 3) := by decide +kernel
theorem d_12_49 : decode (mB 12) 49 = .ok ((.iload_n 3), 1) := by decide +kernel
theorem d_12_50 : decode (mB 12) 50 = .ok (.iaload, 1) := by decide +kernel
theorem d_12_51 : decode (mB 12) 51 = .ok ((.if_icmp .eq 5), 3) := by decide +kernel
theorem d_12_54 : decode (mB 12) 54 = .ok ((.iconst 0), 1) := by decide +kernel
theorem d_12_55 : decode (mB 12) 55 = .ok (.ireturn, 1) := by decide +kernel
theorem d_12_56 : decode (mB 12) 56 = .ok ((.iinc 3 1), 3) := by decide +kernel
theorem d_12_59 : decode (mB 12) 59 = .ok ((.goto (-57)), 3) := by decide +kernel
theorem d_12_62 : decode (mB 12) 62 = .ok ((.iconst 1), 1) := by decide +kernel
theorem d_12_63 : decode (mB 12) 63 = .ok (.ireturn, 1) := by decide +kernel
theorem d_13_0 : decode (mB 13) 0 = .ok ((.aload_n 0), 1) := by decide +kernel
theorem d_13_1 : decode (mB 13) 1 = .ok ((.getfield 25), 3) := by decide +kernel
theorem d_13_4 : decode (mB 13) 4 = .ok (.ireturn, 1) := by decide +kernel
theorem d_14_0 : decode (mB 14) 0 = .ok ((.aload_n 0), 1) := by decide +kernel
theorem d_14_1 : decode (mB 14) 1 = .ok ((.getfield 31), 3) := by decide +kernel
theorem d_14_4 : decode (mB 14) 4 = .ok (.ireturn, 1) := by decide +kernel
theorem d_15_0 : decode (mB 15) 0 = .ok ((.aload_n 0), 1) := by decide +kernel
theorem d_15_1 : decode (mB 15) 1 = .ok ((.getfield 28), 3) := by decide +kernel
theorem d_15_4 : decode (mB 15) 4 = .ok (.ireturn, 1) := by decide +kernel
theorem d_16_0 : decode (mB 16) 0 = .ok ((.aload_n 0), 1) := by decide +kernel
theorem d_16_1 : decode (mB 16) 1 = .ok ((.invokespecial 3), 3) := by decide +kernel
theorem d_16_4 : decode (mB 16) 4 = .ok ((.aload_n 0), 1) := by decide +kernel
theorem d_16_5 : decode (mB 16) 5 = .ok ((.new 9), 3) := by decide +kernel
theorem d_16_8 : decode (mB 16) 8 = .ok (.dup, 1) := by decide +kernel
theorem d_16_9 : decode (mB 16) 9 = .ok ((.invokespecial 11), 3) := by decide +kernel
theorem d_16_12 : decode (mB 16) 12 = .ok ((.putfield 12), 3) := by decide +kernel
theorem d_16_15 : decode (mB 16) 15 = .ok ((.aload_n 0), 1) := by decide +kernel
theorem d_16_16 : decode (mB 16) 16 = .ok ((.new 18), 3) := by decide +kernel
theorem d_16_19 : decode (mB 16) 19 = .ok (.dup, 1) := by decide +kernel
theorem d_16_20 : decode (mB 16) 20 = .ok ((.bipush 9), 2) := by decide +kernel
theorem d_16_22 : decode (mB 16) 22 = .ok ((.invokespecial 20), 3) := by decide +kernel
theorem d_16_25 : decode (mB 16) 25 = .ok ((.putfield 23), 3) := by decide +kernel
theorem d_16_28 : decode (mB 16) 28 = .ok ((.aload_n 0), 1) := by decide +kernel
theorem d_16_29 : decode (mB 16) 29 = .ok ((.iconst 0), 1) := by decide +kernel
theorem d_16_30 : decode (mB 16) 30 = .ok ((.putfield 27), 3) := by decide +kernel
theorem d_16_33 : decode (mB 16) 33 = .ok ((.aload_n 0), 1) := by decide +kernel
theorem d_16_34 : decode (mB 16) 34 = .ok ((.iconst 0), 1) := by decide +kernel
theorem d_16_35 : decode (mB 16) 35 = .ok ((.putfield 31), 3) := by decide +kernel
theorem d_16_38 : decode (mB 16) 38 = .ok ((.aload_n 0), 1) := by decide +kernel
theorem d_16_39 : decode (mB 16) 39 = .ok ((.aload_n 1), 1) := by decide +kernel
theorem d_16_40 : decode (mB 16) 40 = .ok ((.putfield 34), 3) := by decide +kernel
theorem d_16_43 : decode (mB 16) 43 = .ok ((.aload_n 0), 1) := by decide +kernel
theorem d_16_44 : decode (mB 16) 44 = .ok ((.aload_n 2), 1) := by decide +kernel
theorem d_16_45 : decode (mB 16) 45 = .ok ((.putfield 38), 3) := by decide +kernel
theorem d_16_48 : decode (mB 16) 48 = .ok (.return_, 1) := by decide +kernel
theorem d_17_0 : decode (mB 17) 0 = .ok ((.aload_n 0), 1) := by decide +kernel
theorem d_17_1 : decode (mB 17) 1 = .ok ((.getfield 12), 3) := by decide +kernel
theorem d_17_4 : decode (mB 17) 4 = .ok ((.aload_n 0), 1) := by decide +kernel
theorem d_17_5 : decode (mB 17) 5 = .ok ((.getfield 38), 3) := by decide +kernel
theorem d_17_8 : decode (mB 17) 8 = .ok ((.invokevirtual 41), 3) := by decide +kernel
theorem d_17_11 : decode (mB 17) 11 = .ok ((.iconst 0), 1) := by decide +kernel
theorem d_17_12 : decode (mB 17) 12 = .ok ((.istore 4), 2) := by decide +kernel
theorem d_17_14 : decode (mB 17) 14 = .ok ((.iload 4), 2) := by decide +kernel
theorem d_17_16 : decode (mB 17) 16 = .ok ((.iload_n 1), 1) := by decide +kernel
theorem d_17_17 : decode (mB 17) 17 = .ok ((.if_icmp .ge 23), 3) := by decide +kernel
theorem d_17_20 : decode (mB 17) 20 = .ok ((.aload_n 0), 1) := by decide +kernel
theorem d_17_21 : decode (mB 17) 21 = .ok ((.getfield 12), 3) := by decide +kernel
theorem d_17_24 : decode (mB 17) 24 = .ok ((.aload_n 0), 1) := by decide +kernel
theorem d_17_25 : decode (mB 17) 25 = .ok ((.getfield 34), 3) := by decide +kernel
theorem d_17_28 : decode (mB 17) 28 = .ok ((.iload_n 3), 1) := by decide +kernel
theorem d_17_29 : decode (mB 17) 29 = .ok ((.iload_n 2), 1) := by decide +kernel
theorem d_17_30 : decode (mB 17) 30 = .ok ((.invokevirtual 45), 3) := by decide +kernel
theorem d_17_33 : decode (mB 17) 33 = .ok (.pop, 1) := by decide +kernel
theorem d_17_34 : decode (mB 17) 34 = .ok ((.iinc 4 1), 3) := by decide +kernel
theorem d_17_37 : decode (mB 17) 37 = .ok ((.goto (-23)), 3) := by decide +kernel
theorem d_17_40 : decode (mB 17) 40 = .ok ((.aload_n 0), 1) := by decide +kernel
theorem d_17_41 : decode (mB 17) 41 = .ok ((.getfield 12), 3) := by decide +kernel
theorem d_17_44 : decode (mB 17) 44 = .ok (.areturn, 1) := by decide +kernel
theorem d_18_0 : decode (mB 18) 0 = .ok ((.iconst 0), 1) := by decide +kernel
theorem d_18_1 : decode (mB 18) 1 = .ok ((.istore_n 3), 1) := by decide +kernel
theorem d_18_2 : decode (mB 18) 2 = .ok ((.iconst (-1)), 1) := by decide +kernel
theorem d_18_3 : decode (mB 18) 3 = .ok ((.istore 4), 2) := by decide +kernel
theorem d_18_5 : decode (mB 18) 5 = .ok ((.iconst 0), 1) := by decide +kernel
theorem d_18_6 : decode (mB 18) 6 = .ok ((.istore 5), 2) := by decide +kernel
theorem d_18_8 : decode (mB 18) 8 = .ok ((.iload 5), 2) := by decide +kernel
theorem d_18_10 : decode (mB 18) 10 = .ok ((.aload_n 0), 1) := by decide +kernel
theorem d_18_11 : decode (mB 18) 11 = .ok ((.invokevirtual 75), 3) := by decide +kernel
theorem d_18_14 : decode (mB 18) 14 = .ok ((.if_icmp .ge 64), 3) := by decide +kernel
theorem d_18_17 : decode (mB 18) 17 = .ok ((.aload_n 0), 1) := by decide +kernel
theorem d_18_18 : decode (mB 18) 18 = .ok ((.iload_n 1), 1) := by decide +kernel
theorem d_18_19 : decode (mB 18) 19 = .ok ((.iload_n 2), 1) := by decide +kernel
theorem d_18_20 : decode (mB 18) 20 = .ok ((.iload 5), 2) := by decide +kernel
theorem d_18_22 : decode (mB 18) 22 = .ok ((.invokevirtual 78), 3) := by decide +kernel
theorem d_18_25 : decode (mB 18) 25 = .ok ((.istore 6), 2) := by decide +kernel
theorem d_18_27 : decode (mB 18) 27 = .ok ((.iload 5), 2) := by decide +kernel
theorem d_18_29 : decode (mB 18) 29 = .ok ((.invokestatic 70), 3) := by decide +kernel
theorem d_18_32 : decode (mB 18) 32 = .ok ((.iload_n 3), 1) := by decide +kernel
theorem d_18_33 : decode (mB 18) 33 = .ok ((.invokestatic 70), 3) := by decide +kernel
theorem d_18_36 : decode (mB 18) 36 = .ok ((.if_icmp .ge 7), 3) := by decide +kernel
theorem d_18_39 : decode (mB 18) 39 = .ok ((.iconst 1), 1) := by decide +kernel
theorem d_18_40 : decode (mB 18) 40 = .ok ((.goto 4), 3) := by decide +kernel
theorem d_18_43 : decode (mB 18) 43 = .ok ((.iconst 0), 1) := by decide +kernel
theorem d_18_44 : decode (mB 18) 44 = .ok ((.istore 7), 2) := by decide +kernel
theorem d_18_46 : decode (mB 18) 46 = .ok ((.iload 6), 2) := by decide +kernel
theorem d_18_48 : decode (mB 18) 48 = .ok ((.iload 4), 2) := by decide +kernel
theorem d_18_50 : decode (mB 18) 50 = .ok ((.if_icmp .gt 15), 3) := by decide +kernel
theorem d_18_53 : decode (mB 18) 53 = .ok ((.iload 6), 2) := by decide +kernel
theorem d_18_55 : decode (mB 18) 55 = .ok ((.iload 4), 2) := by decide +kernel
theorem d_18_57 : decode (mB 18) 57 = .ok ((.if_icmp .ne 15), 3) := by decide +kernel
theorem d_18_60 : decode (mB 18) 60 = .ok ((.iload 7), 2) := by decide +kernel
theorem d_18_62 : decode (mB 18) 62 = .ok ((.ifCond .eq 10), 3) := by decide +kernel
theorem d_18_65 : decode (mB 18) 65 = .ok ((.iload 5), 2) := by decide +kernel
theorem d_18_67 : decode (mB 18) 67 = .ok ((.istore_n 3), 1) := by decide +kernel
theorem d_18_68 : decode (mB 18) 68 = .ok ((.iload 6), 2) := by decide +kernel
theorem d_18_70 : decode (mB 18) 70 = .ok ((.istore 4), 2) := by decide +kernel
theorem d_18_72 : decode (mB 18) 72 = .ok ((.iinc 5 1), 3) := by decide +kernel
theorem d_18_75 : decode (mB 18) 75 = .ok ((.goto (-67)), 3) := by decide +kernel
theorem d_18_78 : decode (mB 18) 78 = .ok ((.iload_n 3), 1) := by decide +kernel
theorem d_18_79 : decode (mB 18) 79 = .ok (.ireturn, 1) := by decide +kernel
theorem d_19_0 : decode (mB 19) 0 = .ok ((.aload_n 0), 1) := by decide +kernel
theorem d_19_1 : decode (mB 19) 1 = .ok ((.getfield 34), 3) := by decide +kernel
theorem d_19_4 : decode (mB 19) 4 = .ok ((.invokevirtual 49), 3) := by decide +kernel
theorem d_19_7 : decode (mB 19) 7 = .ok ((.invokestatic 55), 3) := by decide +kernel
theorem d_19_10 : decode (mB 19) 10 = .ok (.ireturn, 1) := by decide +kernel
theorem d_20_0 : decode (mB 20) 0 = .ok ((.aload_n 0), 1) := by decide +kernel
theorem d_20_1 : decode (mB 20) 1 = .ok ((.iload_n 1), 1) := by decide +kernel
theorem d_20_2 : decode (mB 20) 2 = .ok ((.iload_n 2), 1) := by decide +kernel
theorem d_20_3 : decode (mB 20) 3 = .ok ((.iload_n 3), 1) := by decide +kernel
theorem d_20_4 : decode (mB 20) 4 = .ok ((.invokevirtual 62), 3) := by decide +kernel
theorem d_20_7 : decode (mB 20) 7 = .ok ((.aload_n 0), 1) := by decide +kernel
theorem d_20_8 : decode (mB 20) 8 = .ok ((.getfield 34), 3) := by decide +kernel
theorem d_20_11 : decode (mB 20) 11 = .ok ((.invokevirtual 66), 3) := by decide +kernel
theorem d_20_14 : decode (mB 20) 14 = .ok ((.invokestatic 70), 3) := by decide +kernel
theorem d_20_17 : decode (mB 20) 17 = .ok (.ireturn, 1) := by decide +kernel
theorem d_21_0 : decode (mB 21) 0 = .ok ((.aload_n 0), 1) := by decide +kernel
theorem d_21_1 : decode (mB 21) 1 = .ok ((.getfield 34), 3) := by decide +kernel
theorem d_21_4 : decode (mB 21) 4 = .ok ((.invokevirtual 49), 3) := by decide +kernel
theorem d_21_7 : decode (mB 21) 7 = .ok ((.istore_n 3), 1) := by decide +kernel
theorem d_21_8 : decode (mB 21) 8 = .ok ((.iconst 1), 1) := by decide +kernel
theorem d_21_9 : decode (mB 21) 9 = .ok ((.iload_n 3), 1) := by decide +kernel
theorem d_21_10 : decode (mB 21) 10 = .ok ((.iload_n 1), 1) := by decide +kernel
theorem d_21_11 : decode (mB 21) 11 = .ok ((.iconst 1), 1) := by decide +kernel
theorem d_21_12 : decode (mB 21) 12 = .ok (.isub, 1) := by decide +kernel
theorem d_21_13 : decode (mB 21) 13 = .ok (.imul, 1) := by decide +kernel
theorem d_21_14 : decode (mB 21) 14 = .ok ((.bipush 8), 2) := by decide +kernel
theorem d_21_16 : decode (mB 21) 16 = .ok ((.invokestatic 85), 3) := by decide +kernel
theorem d_21_19 : decode (mB 21) 19 = .ok (.ishl, 1) := by decide +kernel
theorem d_21_20 : decode (mB 21) 20 = .ok ((.istore 4), 2) := by decide +kernel
theorem d_21_22 : decode (mB 21) 22 = .ok ((.aload_n 0), 1) := by decide +kernel
theorem d_21_23 : decode (mB 21) 23 = .ok ((.iconst 0), 1) := by decide +kernel
theorem d_21_24 : decode (mB 21) 24 = .ok ((.putfield 27), 3) := by decide +kernel
theorem d_21_27 : decode (mB 21) 27 = .ok ((.aload_n 0), 1) := by decide +kernel
theorem d_21_28 : decode (mB 21) 28 = .ok ((.iconst (-1)), 1) := by decide +kernel
theorem d_21_29 : decode (mB 21) 29 = .ok ((.putfield 31), 3) := by decide +kernel
theorem d_21_32 : decode (mB 21) 32 = .ok ((.aload_n 0), 1) := by decide +kernel
theorem d_21_33 : decode (mB 21) 33 = .ok ((.getfield 23), 3) := by decide +kernel
theorem d_21_36 : decode (mB 21) 36 = .ok ((.iconst 0), 1) := by decide +kernel
theorem d_21_37 : decode (mB 21) 37 = .ok ((.aload_n 0), 1) := by decide +kernel
theorem d_21_38 : decode (mB 21) 38 = .ok ((.getfield 38), 3) := by decide +kernel
theorem d_21_41 : decode (mB 21) 41 = .ok ((.invokevirtual 91), 3) := by decide +kernel
theorem d_21_44 : decode (mB 21) 44 = .ok ((.iconst 0), 1) := by decide +kernel
theorem d_21_45 : decode (mB 21) 45 = .ok ((.istore 5), 2) := by decide +kernel
theorem d_21_47 : decode (mB 21) 47 = .ok ((.iload 5), 2) := by decide +kernel
theorem d_21_49 : decode (mB 21) 49 = .ok ((.iload 4), 2) := by decide +kernel
theorem d_21_51 : decode (mB 21) 51 = .ok ((.if_icmp .ge 101), 3) := by decide +kernel
theorem d_21_54 : decode (mB 21) 54 = .ok ((.aload_n 0), 1) := by decide +kernel
theorem d_21_55 : decode (mB 21) 55 = .ok ((.getfield 31), 3) := by decide +kernel
theorem d_21_58 : decode (mB 21) 58 = .ok ((.iload_n 3), 1) := by decide +kernel
theorem d_21_59 : decode (mB 21) 59 = .ok ((.if_icmp .ge 93), 3) := by decide +kernel
theorem d_21_62 : decode (mB 21) 62 = .ok ((.iload 5), 2) := by decide +kernel
theorem d_21_64 : decode (mB 21) 64 = .ok ((.iload_n 3), 1) := by decide +kernel
theorem d_21_65 : decode (mB 21) 65 = .ok (.ishl, 1) := by decide +kernel
theorem d_21_66 : decode (mB 21) 66 = .ok ((.istore 6), 2) := by decide +kernel
theorem d_21_68 : decode (mB 21) 68 = .ok ((.iload 6), 2) := by decide +kernel
theorem d_21_70 : decode (mB 21) 70 = .ok ((.iload_n 1), 1) := by decide +kernel
theorem d_21_71 : decode (mB 21) 71 = .ok ((.iload_n 3), 1) := by decide +kernel
theorem d_21_72 : decode (mB 21) 72 = .ok ((.invokestatic 95), 3) := by decide +kernel
theorem d_21_75 : decode (mB 21) 75 = .ok ((.istore 7), 2) := by decide +kernel
theorem d_21_77 : decode (mB 21) 77 = .ok ((.iload 7), 2) := by decide +kernel
theorem d_21_79 : decode (mB 21) 79 = .ok ((.iload_n 1), 1) := by decide +kernel
theorem d_21_80 : decode (mB 21) 80 = .ok ((.if_icmp .ge 25), 3) := by decide +kernel
theorem d_21_83 : decode (mB 21) 83 = .ok ((.aload_n 0), 1) := by decide +kernel
theorem d_21_84 : decode (mB 21) 84 = .ok ((.iload 7), 2) := by decide +kernel
theorem d_21_86 : decode (mB 21) 86 = .ok ((.iload 6), 2) := by decide +kernel
theorem d_21_88 : decode (mB 21) 88 = .ok ((.iload_n 1), 1) := by decide +kernel
theorem d_21_89 : decode (mB 21) 89 = .ok ((.iload 7), 2) := by decide +kernel
theorem d_21_91 : decode (mB 21) 91 = .ok ((.iload_n 3), 1) := by decide +kernel
theorem d_21_92 : decode (mB 21) 92 = .ok ((.invokestatic 98), 3) := by decide +kernel
theorem d_21_95 : decode (mB 21) 95 = .ok ((.iload_n 2), 1) := by decide +kernel
theorem d_21_96 : decode (mB 21) 96 = .ok ((.invokevirtual 102), 3) := by decide +kernel
theorem d_21_99 : decode (mB 21) 99 = .ok ((.iinc 7 1), 3) := by decide +kernel
theorem d_21_102 : decode (mB 21) 102 = .ok ((.goto (-25)), 3) := by decide +kernel
theorem d_21_105 : decode (mB 21) 105 = .ok ((.aload_n 0), 1) := by decide +kernel
theorem d_21_106 : decode (mB 21) 106 = .ok ((.getfield 23), 3) := by decide +kernel
theorem d_21_109 : decode (mB 21) 109 = .ok ((.iload_n 1), 1) := by decide +kernel
theorem d_21_110 : decode (mB 21) 110 = .ok ((.invokevirtual 106), 3) := by decide +kernel
theorem d_21_113 : decode (mB 21) 113 = .ok ((.aload_n 0), 1) := by decide +kernel
theorem d_21_114 : decode (mB 21) 114 = .ok ((.getfield 34), 3) := by decide +kernel
theorem d_21_117 : decode (mB 21) 117 = .ok ((.invokevirtual 66), 3) := by decide +kernel
theorem d_21_120 : decode (mB 21) 120 = .ok ((.invokestatic 70), 3) := by decide +kernel
theorem d_21_123 : decode (mB 21) 123 = .ok ((.istore 7), 2) := by decide +kernel
theorem d_21_125 : decode (mB 21) 125 = .ok ((.iload 7), 2) := by decide +kernel
theorem d_21_127 : decode (mB 21) 127 = .ok ((.aload_n 0), 1) := by decide +kernel
theorem d_21_128 : decode (mB 21) 128 = .ok ((.getfield 31), 3) := by decide +kernel
theorem d_21_131 : decode (mB 21) 131 = .ok ((.if_icmp .le 15), 3) := by decide +kernel
theorem d_21_134 : decode (mB 21) 134 = .ok ((.aload_n 0), 1) := by decide +kernel
theorem d_21_135 : decode (mB 21) 135 = .ok ((.iload 6), 2) := by decide +kernel
theorem d_21_137 : decode (mB 21) 137 = .ok ((.putfield 27), 3) := by decide +kernel
theorem d_21_140 : decode (mB 21) 140 = .ok ((.aload_n 0), 1) := by decide +kernel
theorem d_21_141 : decode (mB 21) 141 = .ok ((.iload 7), 2) := by decide +kernel
theorem d_21_143 : decode (mB 21) 143 = .ok ((.putfield 31), 3) := by decide +kernel
theorem d_21_146 : decode (mB 21) 146 = .ok ((.iinc 5 1), 3) := by decide +kernel
theorem d_21_149 : decode (mB 21) 149 = .ok ((.goto (-102)), 3) := by decide +kernel
theorem d_21_152 : decode (mB 21) 152 = .ok (.return_, 1) := by decide +kernel
theorem d_22_0 : decode (mB 22) 0 = .ok ((.iload_n 1), 1) := by decide +kernel
theorem d_22_1 : decode (mB 22) 1 = .ok ((.iconst 1), 1) := by decide +kernel
theorem d_22_2 : decode (mB 22) 2 = .ok (.isub, 1) := by decide +kernel
theorem d_22_3 : decode (mB 22) 3 = .ok ((.istore_n 3), 1) := by decide +kernel
theorem d_22_4 : decode (mB 22) 4 = .ok ((.iload_n 3), 1) := by decide +kernel
theorem d_22_5 : decode (mB 22) 5 = .ok ((.ifCond .le 19), 3) := by decide +kernel
theorem d_22_8 : decode (mB 22) 8 = .ok ((.iload_n 0), 1) := by decide +kernel
theorem d_22_9 : decode (mB 22) 9 = .ok ((.iload_n 1), 1) := by decide +kernel
theorem d_22_10 : decode (mB 22) 10 = .ok ((.iload_n 3), 1) := by decide +kernel
theorem d_22_11 : decode (mB 22) 11 = .ok ((.iload_n 2), 1) := by decide +kernel
theorem d_22_12 : decode (mB 22) 12 = .ok ((.invokestatic 98), 3) := by decide +kernel
theorem d_22_15 : decode (mB 22) 15 = .ok ((.ifCond .ne 9), 3) := by decide +kernel
theorem d_22_18 : decode (mB 22) 18 = .ok ((.iinc 3 (-1)), 3) := by decide +kernel
theorem d_22_21 : decode (mB 22) 21 = .ok ((.goto (-17)), 3) := by decide +kernel
theorem d_22_24 : decode (mB 22) 24 = .ok ((.iload_n 3), 1) := by decide +kernel
theorem d_22_25 : decode (mB 22) 25 = .ok ((.iconst 0), 1) := by decide +kernel
theorem d_22_26 : decode (mB 22) 26 = .ok ((.invokestatic 121), 3) := by decide +kernel
theorem d_22_29 : decode (mB 22) 29 = .ok (.ireturn, 1) := by decide +kernel
theorem d_23_0 : decode (mB 23) 0 = .ok ((.iload_n 0), 1) := by decide +kernel
theorem d_23_1 : decode (mB 23) 1 = .ok ((.iload_n 3), 1) := by decide +kernel
theorem d_23_2 : decode (mB 23) 2 = .ok ((.iload_n 1), 1) := by decide +kernel
theorem d_23_3 : decode (mB 23) 3 = .ok ((.iconst 1), 1) := by decide +kernel
theorem d_23_4 : decode (mB 23) 4 = .ok (.isub, 1) := by decide +kernel
theorem d_23_5 : decode (mB 23) 5 = .ok ((.iload_n 2), 1) := by decide +kernel
theorem d_23_6 : decode (mB 23) 6 = .ok (.isub, 1) := by decide +kernel
theorem d_23_7 : decode (mB 23) 7 = .ok (.imul, 1) := by decide +kernel
theorem d_23_8 : decode (mB 23) 8 = .ok (.ishr, 1) := by decide +kernel
theorem d_23_9 : decode (mB 23) 9 = .ok ((.iconst 1), 1) := by decide +kernel
theorem d_23_10 : decode (mB 23) 10 = .ok ((.iload_n 3), 1) := by decide +kernel
theorem d_23_11 : decode (mB 23) 11 = .ok (.ishl, 1) := by decide +kernel
theorem d_23_12 : decode (mB 23) 12 = .ok ((.iconst 1), 1) := by decide +kernel
theorem d_23_13 : decode (mB 23) 13 = .ok (.isub, 1) := by decide +kernel
theorem d_23_14 : decode (mB 23) 14 = .ok (.iand, 1) := by decide +kernel
theorem d_23_15 : decode (mB 23) 15 = .ok (.ireturn, 1) := by decide +kernel
theorem d_24_0 : decode (mB 24) 0 = .ok ((.aload_n 0), 1) := by decide +kernel
theorem d_24_1 : decode (mB 24) 1 = .ok ((.getfield 23), 3) := by decide +kernel
theorem d_24_4 : decode (mB 24) 4 = .ok ((.iload_n 1), 1) := by decide +kernel
theorem d_24_5 : decode (mB 24) 5 = .ok ((.iconst 1), 1) := by decide +kernel
theorem d_24_6 : decode (mB 24) 6 = .ok (.iadd, 1) := by decide +kernel
theorem d_24_7 : decode (mB 24) 7 = .ok ((.invokevirtual 106), 3) := by decide +kernel
theorem d_24_10 : decode (mB 24) 10 = .ok ((.astore 4), 2) := by decide +kernel
theorem d_24_12 : decode (mB 24) 12 = .ok ((.aload 4), 2) := by decide +kernel
theorem d_24_14 : decode (mB 24) 14 = .ok ((.aload_n 0), 1) := by decide +kernel
theorem d_24_15 : decode (mB 24) 15 = .ok ((.getfield 23), 3) := by decide +kernel
theorem d_24_18 : decode (mB 24) 18 = .ok ((.iload_n 1), 1) := by decide +kernel
theorem d_24_19 : decode (mB 24) 19 = .ok ((.invokevirtual 106), 3) := by decide +kernel
theorem d_24_22 : decode (mB 24) 22 = .ok ((.invokevirtual 41), 3) := by decide +kernel
theorem d_24_25 : decode (mB 24) 25 = .ok ((.aload 4), 2) := by decide +kernel
theorem d_24_27 : decode (mB 24) 27 = .ok ((.aload_n 0), 1) := by decide +kernel
theorem d_24_28 : decode (mB 24) 28 = .ok ((.getfield 34), 3) := by decide +kernel
theorem d_24_31 : decode (mB 24) 31 = .ok ((.iload_n 2), 1) := by decide +kernel
theorem d_24_32 : decode (mB 24) 32 = .ok ((.iload_n 3), 1) := by decide +kernel
theorem d_24_33 : decode (mB 24) 33 = .ok ((.invokevirtual 45), 3) := by decide +kernel
theorem d_24_36 : decode (mB 24) 36 = .ok (.pop, 1) := by decide +kernel
theorem d_24_37 : decode (mB 24) 37 = .ok (.return_, 1) := by decide +kernel
theorem d_25_0 : decode (mB 25) 0 = .ok ((.aload_n 0), 1) := by decide +kernel
theorem d_25_1 : decode (mB 25) 1 = .ok ((.getfield 31), 3) := by decide +kernel
theorem d_25_4 : decode (mB 25) 4 = .ok (.ireturn, 1) := by decide +kernel
theorem d_26_0 : decode (mB 26) 0 = .ok ((.aload_n 0), 1) := by decide +kernel
theorem d_26_1 : decode (mB 26) 1 = .ok ((.getfield 27), 3) := by decide +kernel
theorem d_26_4 : decode (mB 26) 4 = .ok ((.iload_n 1), 1) := by decide +kernel
theorem d_26_5 : decode (mB 26) 5 = .ok ((.iload_n 2), 1) := by decide +kernel
theorem d_26_6 : decode (mB 26) 6 = .ok ((.aload_n 0), 1) := by decide +kernel
theorem d_26_7 : decode (mB 26) 7 = .ok ((.getfield 34), 3) := by decide +kernel
theorem d_26_10 : decode (mB 26) 10 = .ok ((.invokevirtual 49), 3) := by decide +kernel
theorem d_26_13 : decode (mB 26) 13 = .ok ((.invokestatic 98), 3) := by decide +kernel
theorem d_26_16 : decode (mB 26) 16 = .ok (.ireturn, 1) := by decide +kernel
theorem d_27_0 : decode (mB 27) 0 = .ok ((.iconst 0), 1) := by decide +kernel
theorem d_27_1 : decode (mB 27) 1 = .ok ((.istore_n 3), 1) := by decide +kernel
theorem d_27_2 : decode (mB 27) 2 = .ok ((.iconst 0), 1) := by decide +kernel
theorem d_27_3 : decode (mB 27) 3 = .ok ((.istore 4), 2) := by decide +kernel
theorem d_27_5 : decode (mB 27) 5 = .ok ((.iload 4), 2) := by decide +kernel
theorem d_27_7 : decode (mB 27) 7 = .ok ((.aload_n 0), 1) := by decide +kernel
theorem d_27_8 : decode (mB 27) 8 = .ok ((.getfield 34), 3) := by decide +kernel
theorem d_27_11 : decode (mB 27) 11 = .ok ((.invokevirtual 49), 3) := by decide +kernel
theorem d_27_14 : decode (mB 27) 14 = .ok ((.if_icmp .ge 58), 3) := by decide +kernel
theorem d_27_17 : decode (mB 27) 17 = .ok ((.aload_n 0), 1) := by decide +kernel
theorem d_27_18 : decode (mB 27) 18 = .ok ((.iload_n 1), 1) := by decide +kernel
theorem d_27_19 : decode (mB 27) 19 = .ok ((.iload_n 2), 1) := by decide +kernel
theorem d_27_20 : decode (mB 27) 20 = .ok ((.iload_n 3), 1) := by decide +kernel
theorem d_27_21 : decode (mB 27) 21 = .ok ((.invokevirtual 62), 3) := by decide +kernel
theorem d_27_24 : decode (mB 27) 24 = .ok ((.iload 4), 2) := by decide +kernel
theorem d_27_26 : decode (mB 27) 26 = .ok ((.invokevirtual 82), 3) := by decide +kernel
theorem d_27_29 : decode (mB 27) 29 = .ok ((.istore 5), 2) := by decide +kernel
theorem d_27_31 : decode (mB 27) 31 = .ok ((.aload_n 0), 1) := by decide +kernel
theorem d_27_32 : decode (mB 27) 32 = .ok ((.iload_n 1), 1) := by decide +kernel
theorem d_27_33 : decode (mB 27) 33 = .ok ((.iload_n 2), 1) := by decide +kernel
theorem d_27_34 : decode (mB 27) 34 = .ok ((.iload_n 3), 1) := by decide +kernel
theorem d_27_35 : decode (mB 27) 35 = .ok ((.iload 4), 2) := by decide +kernel
theorem d_27_37 : decode (mB 27) 37 = .ok ((.invokestatic 55), 3) := by decide +kernel
theorem d_27_40 : decode (mB 27) 40 = .ok (.ior, 1) := by decide +kernel
theorem d_27_41 : decode (mB 27) 41 = .ok ((.invokevirtual 62), 3) := by decide +kernel
theorem d_27_44 : decode (mB 27) 44 = .ok ((.iload 4), 2) := by decide +kernel
theorem d_27_46 : decode (mB 27) 46 = .ok ((.invokevirtual 82), 3) := by decide +kernel
theorem d_27_49 : decode (mB 27) 49 = .ok ((.istore 6), 2) := by decide +kernel
theorem d_27_51 : decode (mB 27) 51 = .ok ((.iload 6), 2) := by decide +kernel
theorem d_27_53 : decode (mB 27) 53 = .ok ((.iload 5), 2) := by decide +kernel
theorem d_27_55 : decode (mB 27) 55 = .ok ((.if_icmp .le 11), 3) := by decide +kernel
theorem d_27_58 : decode (mB 27) 58 = .ok ((.iload_n 3), 1) := by decide +kernel
theorem d_27_59 : decode (mB 27) 59 = .ok ((.iload 4), 2) := by decide +kernel
theorem d_27_61 : decode (mB 27) 61 = .ok ((.invokestatic 55), 3) := by decide +kernel
theorem d_27_64 : decode (mB 27) 64 = .ok (.ior, 1) := by decide +kernel
theorem d_27_65 : decode (mB 27) 65 = .ok ((.istore_n 3), 1) := by decide +kernel
theorem d_27_66 : decode (mB 27) 66 = .ok ((.iinc 4 1), 3) := by decide +kernel
theorem d_27_69 : decode (mB 27) 69 = .ok ((.goto (-64)), 3) := by decide +kernel
theorem d_27_72 : decode (mB 27) 72 = .ok ((.iload_n 3), 1) := by decide +kernel
theorem d_27_73 : decode (mB 27) 73 = .ok (.ireturn, 1) := by decide +kernel
theorem d_28_0 : decode (mB 28) 0 = .ok ((.aload_n 0), 1) := by decide +kernel
theorem d_28_1 : decode (mB 28) 1 = .ok ((.getfield 38), 3) := by decide +kernel
theorem d_28_4 : decode (mB 28) 4 = .ok ((.invokevirtual 59), 3) := by decide +kernel
theorem d_28_7 : decode (mB 28) 7 = .ok (.ireturn, 1) := by decide +kernel
theorem d_29_0 : decode (mB 29) 0 = .ok ((.lconst 0), 1) := by decide +kernel
theorem d_29_1 : decode (mB 29) 1 = .ok ((.lstore 5), 2) := by decide +kernel
theorem d_29_3 : decode (mB 29) 3 = .ok ((.aload_n 0), 1) := by decide +kernel
theorem d_29_4 : decode (mB 29) 4 = .ok ((.getfield 23), 3) := by decide +kernel
theorem d_29_7 : decode (mB 29) 7 = .ok ((.iconst 0), 1) := by decide +kernel
theorem d_29_8 : decode (mB 29) 8 = .ok ((.aload_n 0), 1) := by decide +kernel
theorem d_29_9 : decode (mB 29) 9 = .ok ((.getfield 38), 3) := by decide +kernel
theorem d_29_12 : decode (mB 29) 12 = .ok ((.invokevirtual 91), 3) := by decide +kernel
theorem d_29_15 : decode (mB 29) 15 = .ok ((.iconst 0), 1) := by decide +kernel
theorem d_29_16 : decode (mB 29) 16 = .ok ((.istore 7), 2) := by decide +kernel
theorem d_29_18 : decode (mB 29) 18 = .ok ((.iload 7), 2) := by decide +kernel
theorem d_29_20 : decode (mB 29) 20 = .ok ((.iconst 1), 1) := by decide +kernel
theorem d_29_21 : decode (mB 29) 21 = .ok ((.iload_n 2), 1) := by decide +kernel
theorem d_29_22 : decode (mB 29) 22 = .ok (.ishl, 1) := by decide +kernel
theorem d_29_23 : decode (mB 29) 23 = .ok ((.if_icmp .ge 107), 3) := by decide +kernel
theorem d_29_26 : decode (mB 29) 26 = .ok ((.iload 7), 2) := by decide +kernel
theorem d_29_28 : decode (mB 29) 28 = .ok ((.iload_n 2), 1) := by decide +kernel
theorem d_29_29 : decode (mB 29) 29 = .ok ((.iconst 1), 1) := by decide +kernel
theorem d_29_30 : decode (mB 29) 30 = .ok ((.invokestatic 95), 3) := by decide +kernel
theorem d_29_33 : decode (mB 29) 33 = .ok ((.istore 8), 2) := by decide +kernel
theorem d_29_35 : decode (mB 29) 35 = .ok ((.iload 8), 2) := by decide +kernel
theorem d_29_37 : decode (mB 29) 37 = .ok ((.iload_n 2), 1) := by decide +kernel
theorem d_29_38 : decode (mB 29) 38 = .ok ((.if_icmp .ge 33), 3) := by decide +kernel
theorem d_29_41 : decode (mB 29) 41 = .ok ((.aload_n 0), 1) := by decide +kernel
theorem d_29_42 : decode (mB 29) 42 = .ok ((.iload 8), 2) := by decide +kernel
theorem d_29_44 : decode (mB 29) 44 = .ok ((.aload_n 0), 1) := by decide +kernel
theorem d_29_45 : decode (mB 29) 45 = .ok ((.getfield 38), 3) := by decide +kernel
theorem d_29_48 : decode (mB 29) 48 = .ok ((.invokevirtual 110), 3) := by decide +kernel
theorem d_29_51 : decode (mB 29) 51 = .ok ((.iload 7), 2) := by decide +kernel
theorem d_29_53 : decode (mB 29) 53 = .ok ((.iload_n 2), 1) := by decide +kernel
theorem d_29_54 : decode (mB 29) 54 = .ok ((.iload 8), 2) := by decide +kernel
theorem d_29_56 : decode (mB 29) 56 = .ok ((.iconst 1), 1) := by decide +kernel
theorem d_29_57 : decode (mB 29) 57 = .ok ((.invokestatic 98), 3) := by decide +kernel
theorem d_29_60 : decode (mB 29) 60 = .ok ((.iload_n 3), 1) := by decide +kernel
theorem d_29_61 : decode (mB 29) 61 = .ok (.imul, 1) := by decide +kernel
theorem d_29_62 : decode (mB 29) 62 = .ok ((.invokevirtual 102), 3) := by decide +kernel
theorem d_29_65 : decode (mB 29) 65 = .ok ((.iinc 8 1), 3) := by decide +kernel
theorem d_29_68 : decode (mB 29) 68 = .ok ((.goto (-33)), 3) := by decide +kernel
theorem d_29_71 : decode (mB 29) 71 = .ok ((.aload_n 0), 1) := by decide +kernel
theorem d_29_72 : decode (mB 29) 72 = .ok ((.getfield 23), 3) := by decide +kernel
theorem d_29_75 : decode (mB 29) 75 = .ok ((.iload_n 2), 1) := by decide +kernel
theorem d_29_76 : decode (mB 29) 76 = .ok ((.invokevirtual 106), 3) := by decide +kernel
theorem d_29_79 : decode (mB 29) 79 = .ok ((.aload_n 0), 1) := by decide +kernel
theorem d_29_80 : decode (mB 29) 80 = .ok ((.getfield 34), 3) := by decide +kernel
theorem d_29_83 : decode (mB 29) 83 = .ok ((.iload_n 1), 1) := by decide +kernel
theorem d_29_84 : decode (mB 29) 84 = .ok ((.invokevirtual 113), 3) := by decide +kernel
theorem d_29_87 : decode (mB 29) 87 = .ok ((.ifCond .eq 37), 3) := by decide +kernel
theorem d_29_90 : decode (mB 29) 90 = .ok ((.iload 7), 2) := by decide +kernel
theorem d_29_92 : decode (mB 29) 92 = .ok ((.invokestatic 70), 3) := by decide +kernel
theorem d_29_95 : decode (mB 29) 95 = .ok ((.istore 8), 2) := by decide +kernel
theorem d_29_97 : decode (mB 29) 97 = .ok ((.lload 5), 2) := by decide +kernel
theorem d_29_99 : decode (mB 29) 99 = .ok ((.iload 4), 2) := by decide +kernel
theorem d_29_101 : decode (mB 29) 101 = .ok (.i2l, 1) := by decide +kernel
theorem d_29_102 : decode (mB 29) 102 = .ok ((.iload 8), 2) := by decide +kernel
theorem d_29_104 : decode (mB 29) 104 = .ok ((.invokestatic 117), 3) := by decide +kernel
theorem d_29_107 : decode (mB 29) 107 = .ok ((.bipush 10), 2) := by decide +kernel
theorem d_29_109 : decode (mB 29) 109 = .ok ((.iload 4), 2) := by decide +kernel
theorem d_29_111 : decode (mB 29) 111 = .ok (.isub, 1) := by decide +kernel
theorem d_29_112 : decode (mB 29) 112 = .ok (.i2l, 1) := by decide +kernel
theorem d_29_113 : decode (mB 29) 113 = .ok ((.iload_n 2), 1) := by decide +kernel
theorem d_29_114 : decode (mB 29) 114 = .ok ((.iload 8), 2) := by decide +kernel
theorem d_29_116 : decode (mB 29) 116 = .ok (.isub, 1) := by decide +kernel
theorem d_29_117 : decode (mB 29) 117 = .ok ((.invokestatic 117), 3) := by decide +kernel
theorem d_29_120 : decode (mB 29) 120 = .ok (.lmul, 1) := by decide +kernel
theorem d_29_121 : decode (mB 29) 121 = .ok (.ladd, 1) := by decide +kernel
theorem d_29_122 : decode (mB 29) 122 = .ok ((.lstore 5), 2) := by decide +kernel
theorem d_29_124 : decode (mB 29) 124 = .ok ((.iinc 7 1), 3) := by decide +kernel
theorem d_29_127 : decode (mB 29) 127 = .ok ((.goto (-109)), 3) := by decide +kernel
theorem d_29_130 : decode (mB 29) 130 = .ok ((.lload 5), 2) := by decide +kernel
theorem d_29_132 : decode (mB 29) 132 = .ok (.lreturn, 1) := by decide +kernel
theorem d_30_0 : decode (mB 30) 0 = .ok ((.aload_n 0), 1) := by decide +kernel
theorem d_30_1 : decode (mB 30) 1 = .ok ((.invokespecial 3), 3) := by decide +kernel
theorem d_30_4 : decode (mB 30) 4 = .ok ((.aload_n 0), 1) := by decide +kernel
theorem d_30_5 : decode (mB 30) 5 = .ok ((.new 9), 3) := by decide +kernel
theorem d_30_8 : decode (mB 30) 8 = .ok (.dup, 1) := by decide +kernel
theorem d_30_9 : decode (mB 30) 9 = .ok ((.invokespecial 11), 3) := by decide +kernel
theorem d_30_12 : decode (mB 30) 12 = .ok ((.putfield 12), 3) := by decide +kernel
theorem d_30_15 : decode (mB 30) 15 = .ok ((.aload_n 0), 1) := by decide +kernel
theorem d_30_16 : decode (mB 30) 16 = .ok ((.iconst 4), 1) := by decide +kernel
theorem d_30_17 : decode (mB 30) 17 = .ok ((.newarray .int), 2) := by decide +kernel
theorem d_30_19 : decode (mB 30) 19 = .ok ((.putfield 18), 3) := by decide +kernel
theorem d_30_22 : decode (mB 30) 22 = .ok ((.aload_n 0), 1) := by decide +kernel
theorem d_30_23 : decode (mB 30) 23 = .ok ((.iconst 0), 1) := by decide +kernel
theorem d_30_24 : decode (mB 30) 24 = .ok ((.putfield 22), 3) := by decide +kernel
theorem d_30_27 : decode (mB 30) 27 = .ok ((.aload_n 0), 1) := by decide +kernel
theorem d_30_28 : decode (mB 30) 28 = .ok ((.iconst 0), 1) := by decide +kernel
theorem d_30_29 : decode (mB 30) 29 = .ok ((.putfield 26), 3) := by decide +kernel
theorem d_30_32 : decode (mB 30) 32 = .ok ((.aload_n 0), 1) := by decide +kernel
theorem d_30_33 : decode (mB 30) 33 = .ok ((.iconst 0), 1) := by decide +kernel
theorem d_30_34 : decode (mB 30) 34 = .ok ((.putfield 29), 3) := by decide +kernel
theorem d_30_37 : decode (mB 30) 37 = .ok (.return_, 1) := by decide +kernel
theorem d_31_0 : decode (mB 31) 0 = .ok ((.aload_n 0), 1) := by decide +kernel
theorem d_31_1 : decode (mB 31) 1 = .ok ((.getfield 12), 3) := by decide +kernel
theorem d_31_4 : decode (mB 31) 4 = .ok ((.invokevirtual 32), 3) := by decide +kernel
theorem d_31_7 : decode (mB 31) 7 = .ok ((.aload_n 0), 1) := by decide +kernel
theorem d_31_8 : decode (mB 31) 8 = .ok ((.iconst 0), 1) := by decide +kernel
theorem d_31_9 : decode (mB 31) 9 = .ok ((.putfield 22), 3) := by decide +kernel
theorem d_31_12 : decode (mB 31) 12 = .ok ((.iconst 0), 1) := by decide +kernel
theorem d_31_13 : decode (mB 31) 13 = .ok ((.istore_n 2), 1) := by decide +kernel
theorem d_31_14 : decode (mB 31) 14 = .ok ((.iload_n 2), 1) := by decide +kernel
theorem d_31_15 : decode (mB 31) 15 = .ok ((.aload_n 1), 1) := by decide +kernel
theorem d_31_16 : decode (mB 31) 16 = .ok ((.invokevirtual 35), 3) := by decide +kernel
theorem d_31_19 : decode (mB 31) 19 = .ok ((.if_icmp .ge 24), 3) := by decide +kernel
theorem d_31_22 : decode (mB 31) 22 = .ok ((.aload_n 0), 1) := by decide +kernel
theorem d_31_23 : decode (mB 31) 23 = .ok ((.iload_n 2), 1) := by decide +kernel
theorem d_31_24 : decode (mB 31) 24 = .ok ((.aload_n 1), 1) := by decide +kernel
theorem d_31_25 : decode (mB 31) 25 = .ok ((.iload_n 2), 1) := by decide +kernel
theorem d_31_26 : decode (mB 31) 26 = .ok ((.invokevirtual 41), 3) := by decide +kernel
theorem d_31_29 : decode (mB 31) 29 = .ok ((.invokevirtual 45), 3) := by decide +kernel
theorem d_31_32 : decode (mB 31) 32 = .ok ((.ifCond .ne 5), 3) := by decide +kernel
theorem d_31_35 : decode (mB 31) 35 = .ok ((.iload_n 2), 1) := by decide +kernel
theorem d_31_36 : decode (mB 31) 36 = .ok (.ireturn, 1) := by decide +kernel
theorem d_31_37 : decode (mB 31) 37 = .ok ((.iinc 2 1), 3) := by decide +kernel
theorem d_31_40 : decode (mB 31) 40 = .ok ((.goto (-26)), 3) := by decide +kernel
theorem d_31_43 : decode (mB 31) 43 = .ok ((.aload_n 1), 1) := by decide +kernel
theorem d_31_44 : decode (mB 31) 44 = .ok ((.invokevirtual 35), 3) := by decide +kernel
theorem d_31_47 : decode (mB 31) 47 = .ok ((.ifCond .le 14), 3) := by decide +kernel
theorem d_31_50 : decode (mB 31) 50 = .ok ((.aload_n 0), 1) := by decide +kernel
theorem d_31_51 : decode (mB 31) 51 = .ok ((.getfield 22), 3) := by decide +kernel
theorem d_31_54 : decode (mB 31) 54 = .ok ((.ifCond .ne 7), 3) := by decide +kernel
theorem d_31_57 : decode (mB 31) 57 = .ok ((.iconst 1), 1) := by decide +kernel
theorem d_31_58 : decode (mB 31) 58 = .ok ((.goto 4), 3) := by decide +kernel
theorem d_31_61 : decode (mB 31) 61 = .ok ((.iconst 0), 1) := by decide +kernel
theorem d_31_62 : decode (mB 31) 62 = .ok ((.istore_n 2), 1) := by decide +kernel
theorem d_31_63 : decode (mB 31) 63 = .ok ((.iload_n 2), 1) := by decide +kernel
theorem d_31_64 : decode (mB 31) 64 = .ok ((.ifCond .eq 8), 3) := by decide +kernel
theorem d_31_67 : decode (mB 31) 67 = .ok ((.bipush (-9)), 2) := by decide +kernel
theorem d_31_69 : decode (mB 31) 69 = .ok ((.goto 7), 3) := by decide +kernel
theorem d_31_72 : decode (mB 31) 72 = .ok ((.aload_n 1), 1) := by decide +kernel
theorem d_31_73 : decode (mB 31) 73 = .ok ((.invokevirtual 35), 3) := by decide +kernel
theorem d_31_76 : decode (mB 31) 76 = .ok (.ireturn, 1) := by decide +kernel
theorem d_32_0 : decode (mB 32) 0 = .ok ((.iload_n 1), 1) := by decide +kernel
theorem d_32_1 : decode (mB 32) 1 = .ok ((.ifCond .ne 15), 3) := by decide +kernel
