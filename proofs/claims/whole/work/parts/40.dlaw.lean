/-! the law: its loop, over contracts of both sides -/
theorem dl_0 : decode code 0 = .ok (.new 7, 3) := by decide +kernel
theorem dl_3 : decode code 3 = .ok (.dup, 1) := by decide +kernel
theorem dl_4 : decode code 4 = .ok (.invokespecial 9, 3) := by decide +kernel
theorem dl_7 : decode code 7 = .ok (.astore_n 1, 1) := by decide +kernel
theorem dl_8 : decode code 8 = .ok (.new 10, 3) := by decide +kernel
theorem dl_11 : decode code 11 = .ok (.dup, 1) := by decide +kernel
theorem dl_12 : decode code 12 = .ok (.invokespecial 12, 3) := by decide +kernel
theorem dl_15 : decode code 15 = .ok (.astore_n 2, 1) := by decide +kernel
theorem dl_16 : decode code 16 = .ok (.iconst 0, 1) := by decide +kernel
theorem dl_17 : decode code 17 = .ok (.istore_n 3, 1) := by decide +kernel
theorem dl_18 : decode code 18 = .ok (.iload_n 3, 1) := by decide +kernel
theorem dl_19 : decode code 19 = .ok (.aload_n 0, 1) := by decide +kernel
theorem dl_20 : decode code 20 = .ok (.arraylength, 1) := by decide +kernel
theorem dl_21 : decode code 21 = .ok (.bipush 7, 2) := by decide +kernel
theorem dl_23 : decode code 23 = .ok (.isub, 1) := by decide +kernel
theorem dl_24 : decode code 24 = .ok (.if_icmp .gt 1324, 3) := by decide +kernel
theorem dl_27 : decode code 27 = .ok (.aload_n 0, 1) := by decide +kernel
theorem dl_28 : decode code 28 = .ok (.iload_n 3, 1) := by decide +kernel
theorem dl_29 : decode code 29 = .ok (.iaload, 1) := by decide +kernel
theorem dl_30 : decode code 30 = .ok (.bipush 31, 2) := by decide +kernel
theorem dl_32 : decode code 32 = .ok (.iand, 1) := by decide +kernel
theorem dl_33 : decode code 33 = .ok (.tableswitch 1309 0 28 #[131, 164, 187, 220, 253, 277, 321, 354, 429, 452, 505, 568, 631, 654, 698, 741, 775, 808, 884, 928, 991, 1024, 1077, 1090, 1103, 1126, 1169, 1212, 1246], 131) := by decide +kernel
theorem dl_164 : decode code 164 = .ok (.aload_n 1, 1) := by decide +kernel
theorem dl_165 : decode code 165 = .ok (.aload_n 0, 1) := by decide +kernel
theorem dl_166 : decode code 166 = .ok (.iload_n 3, 1) := by decide +kernel
theorem dl_167 : decode code 167 = .ok (.iconst 1, 1) := by decide +kernel
theorem dl_168 : decode code 168 = .ok (.iadd, 1) := by decide +kernel
theorem dl_169 : decode code 169 = .ok (.iaload, 1) := by decide +kernel
theorem dl_170 : decode code 170 = .ok (.aload_n 0, 1) := by decide +kernel
theorem dl_171 : decode code 171 = .ok (.iload_n 3, 1) := by decide +kernel
theorem dl_172 : decode code 172 = .ok (.iconst 2, 1) := by decide +kernel
theorem dl_173 : decode code 173 = .ok (.iadd, 1) := by decide +kernel
theorem dl_174 : decode code 174 = .ok (.iaload, 1) := by decide +kernel
theorem dl_175 : decode code 175 = .ok (.invokevirtual 13, 3) := by decide +kernel
theorem dl_178 : decode code 178 = .ok (.aload_n 2, 1) := by decide +kernel
theorem dl_179 : decode code 179 = .ok (.aload_n 0, 1) := by decide +kernel
theorem dl_180 : decode code 180 = .ok (.iload_n 3, 1) := by decide +kernel
theorem dl_181 : decode code 181 = .ok (.iconst 1, 1) := by decide +kernel
theorem dl_182 : decode code 182 = .ok (.iadd, 1) := by decide +kernel
theorem dl_183 : decode code 183 = .ok (.iaload, 1) := by decide +kernel
theorem dl_184 : decode code 184 = .ok (.aload_n 0, 1) := by decide +kernel
theorem dl_185 : decode code 185 = .ok (.iload_n 3, 1) := by decide +kernel
theorem dl_186 : decode code 186 = .ok (.iconst 2, 1) := by decide +kernel
theorem dl_187 : decode code 187 = .ok (.iadd, 1) := by decide +kernel
theorem dl_188 : decode code 188 = .ok (.iaload, 1) := by decide +kernel
theorem dl_189 : decode code 189 = .ok (.invokevirtual 17, 3) := by decide +kernel
theorem dl_192 : decode code 192 = .ok (.if_icmp .eq 1150, 3) := by decide +kernel
theorem dl_195 : decode code 195 = .ok (.iconst 0, 1) := by decide +kernel
theorem dl_196 : decode code 196 = .ok (.ireturn, 1) := by decide +kernel
theorem dl_197 : decode code 197 = .ok (.aload_n 1, 1) := by decide +kernel
theorem dl_198 : decode code 198 = .ok (.aload_n 0, 1) := by decide +kernel
theorem dl_199 : decode code 199 = .ok (.iload_n 3, 1) := by decide +kernel
theorem dl_200 : decode code 200 = .ok (.iconst 1, 1) := by decide +kernel
theorem dl_201 : decode code 201 = .ok (.iadd, 1) := by decide +kernel
theorem dl_202 : decode code 202 = .ok (.iaload, 1) := by decide +kernel
theorem dl_203 : decode code 203 = .ok (.invokevirtual 18, 3) := by decide +kernel
theorem dl_206 : decode code 206 = .ok (.aload_n 2, 1) := by decide +kernel
theorem dl_207 : decode code 207 = .ok (.aload_n 0, 1) := by decide +kernel
theorem dl_208 : decode code 208 = .ok (.iload_n 3, 1) := by decide +kernel
theorem dl_209 : decode code 209 = .ok (.iconst 1, 1) := by decide +kernel
theorem dl_210 : decode code 210 = .ok (.iadd, 1) := by decide +kernel
theorem dl_211 : decode code 211 = .ok (.iaload, 1) := by decide +kernel
theorem dl_212 : decode code 212 = .ok (.invokevirtual 22, 3) := by decide +kernel
theorem dl_215 : decode code 215 = .ok (.if_icmp .eq 1127, 3) := by decide +kernel
theorem dl_218 : decode code 218 = .ok (.iconst 0, 1) := by decide +kernel
theorem dl_219 : decode code 219 = .ok (.ireturn, 1) := by decide +kernel
theorem dl_220 : decode code 220 = .ok (.aload_n 1, 1) := by decide +kernel
theorem dl_221 : decode code 221 = .ok (.aload_n 0, 1) := by decide +kernel
theorem dl_222 : decode code 222 = .ok (.iload_n 3, 1) := by decide +kernel
theorem dl_223 : decode code 223 = .ok (.iconst 1, 1) := by decide +kernel
theorem dl_224 : decode code 224 = .ok (.iadd, 1) := by decide +kernel
theorem dl_225 : decode code 225 = .ok (.iaload, 1) := by decide +kernel
theorem dl_226 : decode code 226 = .ok (.aload_n 0, 1) := by decide +kernel
theorem dl_227 : decode code 227 = .ok (.iload_n 3, 1) := by decide +kernel
theorem dl_228 : decode code 228 = .ok (.iconst 2, 1) := by decide +kernel
theorem dl_229 : decode code 229 = .ok (.iadd, 1) := by decide +kernel
theorem dl_230 : decode code 230 = .ok (.iaload, 1) := by decide +kernel
theorem dl_231 : decode code 231 = .ok (.invokevirtual 23, 3) := by decide +kernel
theorem dl_234 : decode code 234 = .ok (.aload_n 2, 1) := by decide +kernel
theorem dl_235 : decode code 235 = .ok (.aload_n 0, 1) := by decide +kernel
theorem dl_236 : decode code 236 = .ok (.iload_n 3, 1) := by decide +kernel
theorem dl_237 : decode code 237 = .ok (.iconst 1, 1) := by decide +kernel
theorem dl_238 : decode code 238 = .ok (.iadd, 1) := by decide +kernel
theorem dl_239 : decode code 239 = .ok (.iaload, 1) := by decide +kernel
theorem dl_240 : decode code 240 = .ok (.aload_n 0, 1) := by decide +kernel
theorem dl_241 : decode code 241 = .ok (.iload_n 3, 1) := by decide +kernel
theorem dl_242 : decode code 242 = .ok (.iconst 2, 1) := by decide +kernel
theorem dl_243 : decode code 243 = .ok (.iadd, 1) := by decide +kernel
theorem dl_244 : decode code 244 = .ok (.iaload, 1) := by decide +kernel
theorem dl_245 : decode code 245 = .ok (.invokevirtual 26, 3) := by decide +kernel
theorem dl_248 : decode code 248 = .ok (.if_icmp .eq 1094, 3) := by decide +kernel
theorem dl_251 : decode code 251 = .ok (.iconst 0, 1) := by decide +kernel
theorem dl_252 : decode code 252 = .ok (.ireturn, 1) := by decide +kernel
theorem dl_253 : decode code 253 = .ok (.aload_n 1, 1) := by decide +kernel
theorem dl_254 : decode code 254 = .ok (.aload_n 0, 1) := by decide +kernel
theorem dl_255 : decode code 255 = .ok (.iload_n 3, 1) := by decide +kernel
theorem dl_256 : decode code 256 = .ok (.iconst 1, 1) := by decide +kernel
theorem dl_257 : decode code 257 = .ok (.iadd, 1) := by decide +kernel
theorem dl_258 : decode code 258 = .ok (.iaload, 1) := by decide +kernel
theorem dl_259 : decode code 259 = .ok (.aload_n 0, 1) := by decide +kernel
theorem dl_260 : decode code 260 = .ok (.iload_n 3, 1) := by decide +kernel
theorem dl_261 : decode code 261 = .ok (.iconst 2, 1) := by decide +kernel
theorem dl_262 : decode code 262 = .ok (.iadd, 1) := by decide +kernel
theorem dl_263 : decode code 263 = .ok (.iaload, 1) := by decide +kernel
theorem dl_264 : decode code 264 = .ok (.invokevirtual 27, 3) := by decide +kernel
theorem dl_267 : decode code 267 = .ok (.aload_n 2, 1) := by decide +kernel
theorem dl_268 : decode code 268 = .ok (.aload_n 0, 1) := by decide +kernel
theorem dl_269 : decode code 269 = .ok (.iload_n 3, 1) := by decide +kernel
theorem dl_270 : decode code 270 = .ok (.iconst 1, 1) := by decide +kernel
theorem dl_271 : decode code 271 = .ok (.iadd, 1) := by decide +kernel
theorem dl_272 : decode code 272 = .ok (.iaload, 1) := by decide +kernel
theorem dl_273 : decode code 273 = .ok (.aload_n 0, 1) := by decide +kernel
theorem dl_274 : decode code 274 = .ok (.iload_n 3, 1) := by decide +kernel
theorem dl_275 : decode code 275 = .ok (.iconst 2, 1) := by decide +kernel
theorem dl_276 : decode code 276 = .ok (.iadd, 1) := by decide +kernel
theorem dl_277 : decode code 277 = .ok (.iaload, 1) := by decide +kernel
theorem dl_278 : decode code 278 = .ok (.invokevirtual 30, 3) := by decide +kernel
theorem dl_281 : decode code 281 = .ok (.if_icmp .eq 1061, 3) := by decide +kernel
theorem dl_284 : decode code 284 = .ok (.iconst 0, 1) := by decide +kernel
theorem dl_285 : decode code 285 = .ok (.ireturn, 1) := by decide +kernel
theorem dl_286 : decode code 286 = .ok (.aload_n 1, 1) := by decide +kernel
theorem dl_287 : decode code 287 = .ok (.aload_n 0, 1) := by decide +kernel
theorem dl_288 : decode code 288 = .ok (.iload_n 3, 1) := by decide +kernel
theorem dl_289 : decode code 289 = .ok (.iconst 1, 1) := by decide +kernel
theorem dl_290 : decode code 290 = .ok (.iadd, 1) := by decide +kernel
theorem dl_291 : decode code 291 = .ok (.iaload, 1) := by decide +kernel
theorem dl_292 : decode code 292 = .ok (.invokevirtual 31, 3) := by decide +kernel
theorem dl_295 : decode code 295 = .ok (.aload_n 2, 1) := by decide +kernel
theorem dl_296 : decode code 296 = .ok (.aload_n 0, 1) := by decide +kernel
theorem dl_297 : decode code 297 = .ok (.iload_n 3, 1) := by decide +kernel
theorem dl_298 : decode code 298 = .ok (.iconst 1, 1) := by decide +kernel
theorem dl_299 : decode code 299 = .ok (.iadd, 1) := by decide +kernel
theorem dl_300 : decode code 300 = .ok (.iaload, 1) := by decide +kernel
theorem dl_301 : decode code 301 = .ok (.invokevirtual 35, 3) := by decide +kernel
theorem dl_304 : decode code 304 = .ok (.lcmp, 1) := by decide +kernel
theorem dl_305 : decode code 305 = .ok (.ifCond .eq 1037, 3) := by decide +kernel
theorem dl_308 : decode code 308 = .ok (.iconst 0, 1) := by decide +kernel
theorem dl_309 : decode code 309 = .ok (.ireturn, 1) := by decide +kernel
theorem dl_310 : decode code 310 = .ok (.aload_n 1, 1) := by decide +kernel
theorem dl_311 : decode code 311 = .ok (.aload_n 0, 1) := by decide +kernel
theorem dl_312 : decode code 312 = .ok (.iload_n 3, 1) := by decide +kernel
theorem dl_313 : decode code 313 = .ok (.iconst 1, 1) := by decide +kernel
theorem dl_314 : decode code 314 = .ok (.iadd, 1) := by decide +kernel
theorem dl_315 : decode code 315 = .ok (.iaload, 1) := by decide +kernel
theorem dl_316 : decode code 316 = .ok (.aload_n 0, 1) := by decide +kernel
theorem dl_317 : decode code 317 = .ok (.iload_n 3, 1) := by decide +kernel
theorem dl_318 : decode code 318 = .ok (.iconst 2, 1) := by decide +kernel
theorem dl_319 : decode code 319 = .ok (.iadd, 1) := by decide +kernel
theorem dl_320 : decode code 320 = .ok (.iaload, 1) := by decide +kernel
theorem dl_321 : decode code 321 = .ok (.aload_n 0, 1) := by decide +kernel
theorem dl_322 : decode code 322 = .ok (.iload_n 3, 1) := by decide +kernel
theorem dl_323 : decode code 323 = .ok (.iconst 3, 1) := by decide +kernel
theorem dl_324 : decode code 324 = .ok (.iadd, 1) := by decide +kernel
theorem dl_325 : decode code 325 = .ok (.iaload, 1) := by decide +kernel
theorem dl_326 : decode code 326 = .ok (.invokevirtual 36, 3) := by decide +kernel
theorem dl_329 : decode code 329 = .ok (.aload_n 2, 1) := by decide +kernel
theorem dl_330 : decode code 330 = .ok (.aload_n 0, 1) := by decide +kernel
theorem dl_331 : decode code 331 = .ok (.iload_n 3, 1) := by decide +kernel
theorem dl_332 : decode code 332 = .ok (.iconst 1, 1) := by decide +kernel
theorem dl_333 : decode code 333 = .ok (.iadd, 1) := by decide +kernel
theorem dl_334 : decode code 334 = .ok (.iaload, 1) := by decide +kernel
theorem dl_335 : decode code 335 = .ok (.aload_n 0, 1) := by decide +kernel
theorem dl_336 : decode code 336 = .ok (.iload_n 3, 1) := by decide +kernel
theorem dl_337 : decode code 337 = .ok (.iconst 2, 1) := by decide +kernel
theorem dl_338 : decode code 338 = .ok (.iadd, 1) := by decide +kernel
theorem dl_339 : decode code 339 = .ok (.iaload, 1) := by decide +kernel
theorem dl_340 : decode code 340 = .ok (.aload_n 0, 1) := by decide +kernel
theorem dl_341 : decode code 341 = .ok (.iload_n 3, 1) := by decide +kernel
theorem dl_342 : decode code 342 = .ok (.iconst 3, 1) := by decide +kernel
theorem dl_343 : decode code 343 = .ok (.iadd, 1) := by decide +kernel
theorem dl_344 : decode code 344 = .ok (.iaload, 1) := by decide +kernel
theorem dl_345 : decode code 345 = .ok (.invokevirtual 40, 3) := by decide +kernel
theorem dl_348 : decode code 348 = .ok (.lcmp, 1) := by decide +kernel
theorem dl_349 : decode code 349 = .ok (.ifCond .eq 993, 3) := by decide +kernel
theorem dl_352 : decode code 352 = .ok (.iconst 0, 1) := by decide +kernel
theorem dl_353 : decode code 353 = .ok (.ireturn, 1) := by decide +kernel
theorem dl_354 : decode code 354 = .ok (.aload_n 1, 1) := by decide +kernel
theorem dl_355 : decode code 355 = .ok (.aload_n 0, 1) := by decide +kernel
theorem dl_356 : decode code 356 = .ok (.iload_n 3, 1) := by decide +kernel
theorem dl_357 : decode code 357 = .ok (.iconst 1, 1) := by decide +kernel
theorem dl_358 : decode code 358 = .ok (.iadd, 1) := by decide +kernel
theorem dl_359 : decode code 359 = .ok (.iaload, 1) := by decide +kernel
theorem dl_360 : decode code 360 = .ok (.aload_n 0, 1) := by decide +kernel
theorem dl_361 : decode code 361 = .ok (.iload_n 3, 1) := by decide +kernel
theorem dl_362 : decode code 362 = .ok (.iconst 2, 1) := by decide +kernel
theorem dl_363 : decode code 363 = .ok (.iadd, 1) := by decide +kernel
theorem dl_364 : decode code 364 = .ok (.iaload, 1) := by decide +kernel
theorem dl_365 : decode code 365 = .ok (.invokevirtual 41, 3) := by decide +kernel
theorem dl_368 : decode code 368 = .ok (.aload_n 2, 1) := by decide +kernel
theorem dl_369 : decode code 369 = .ok (.aload_n 0, 1) := by decide +kernel
theorem dl_370 : decode code 370 = .ok (.iload_n 3, 1) := by decide +kernel
theorem dl_371 : decode code 371 = .ok (.iconst 1, 1) := by decide +kernel
theorem dl_372 : decode code 372 = .ok (.iadd, 1) := by decide +kernel
theorem dl_373 : decode code 373 = .ok (.iaload, 1) := by decide +kernel
theorem dl_374 : decode code 374 = .ok (.aload_n 0, 1) := by decide +kernel
theorem dl_375 : decode code 375 = .ok (.iload_n 3, 1) := by decide +kernel
theorem dl_376 : decode code 376 = .ok (.iconst 2, 1) := by decide +kernel
theorem dl_377 : decode code 377 = .ok (.iadd, 1) := by decide +kernel
theorem dl_378 : decode code 378 = .ok (.iaload, 1) := by decide +kernel
theorem dl_379 : decode code 379 = .ok (.invokevirtual 44, 3) := by decide +kernel
theorem dl_382 : decode code 382 = .ok (.if_icmp .eq 960, 3) := by decide +kernel
theorem dl_385 : decode code 385 = .ok (.iconst 0, 1) := by decide +kernel
theorem dl_386 : decode code 386 = .ok (.ireturn, 1) := by decide +kernel
theorem dl_387 : decode code 387 = .ok (.aload_n 1, 1) := by decide +kernel
theorem dl_388 : decode code 388 = .ok (.aload_n 0, 1) := by decide +kernel
theorem dl_389 : decode code 389 = .ok (.iload_n 3, 1) := by decide +kernel
theorem dl_390 : decode code 390 = .ok (.iconst 1, 1) := by decide +kernel
theorem dl_391 : decode code 391 = .ok (.iadd, 1) := by decide +kernel
theorem dl_392 : decode code 392 = .ok (.iaload, 1) := by decide +kernel
theorem dl_393 : decode code 393 = .ok (.aload_n 0, 1) := by decide +kernel
theorem dl_394 : decode code 394 = .ok (.iload_n 3, 1) := by decide +kernel
theorem dl_395 : decode code 395 = .ok (.iconst 2, 1) := by decide +kernel
theorem dl_396 : decode code 396 = .ok (.iadd, 1) := by decide +kernel
theorem dl_397 : decode code 397 = .ok (.iaload, 1) := by decide +kernel
theorem dl_398 : decode code 398 = .ok (.aload_n 0, 1) := by decide +kernel
theorem dl_399 : decode code 399 = .ok (.iload_n 3, 1) := by decide +kernel
theorem dl_400 : decode code 400 = .ok (.iconst 3, 1) := by decide +kernel
theorem dl_401 : decode code 401 = .ok (.iadd, 1) := by decide +kernel
theorem dl_402 : decode code 402 = .ok (.iaload, 1) := by decide +kernel
theorem dl_403 : decode code 403 = .ok (.aload_n 0, 1) := by decide +kernel
theorem dl_404 : decode code 404 = .ok (.iload_n 3, 1) := by decide +kernel
theorem dl_405 : decode code 405 = .ok (.iconst 4, 1) := by decide +kernel
theorem dl_406 : decode code 406 = .ok (.iadd, 1) := by decide +kernel
theorem dl_407 : decode code 407 = .ok (.iaload, 1) := by decide +kernel
theorem dl_408 : decode code 408 = .ok (.aload_n 0, 1) := by decide +kernel
theorem dl_409 : decode code 409 = .ok (.iload_n 3, 1) := by decide +kernel
theorem dl_410 : decode code 410 = .ok (.iconst 5, 1) := by decide +kernel
theorem dl_411 : decode code 411 = .ok (.iadd, 1) := by decide +kernel
theorem dl_412 : decode code 412 = .ok (.iaload, 1) := by decide +kernel
theorem dl_413 : decode code 413 = .ok (.aload_n 0, 1) := by decide +kernel
theorem dl_414 : decode code 414 = .ok (.iload_n 3, 1) := by decide +kernel
theorem dl_415 : decode code 415 = .ok (.bipush 6, 2) := by decide +kernel
theorem dl_417 : decode code 417 = .ok (.iadd, 1) := by decide +kernel
theorem dl_418 : decode code 418 = .ok (.iaload, 1) := by decide +kernel
theorem dl_419 : decode code 419 = .ok (.invokevirtual 45, 3) := by decide +kernel
theorem dl_422 : decode code 422 = .ok (.aload_n 2, 1) := by decide +kernel
theorem dl_423 : decode code 423 = .ok (.aload_n 0, 1) := by decide +kernel
theorem dl_424 : decode code 424 = .ok (.iload_n 3, 1) := by decide +kernel
theorem dl_425 : decode code 425 = .ok (.iconst 1, 1) := by decide +kernel
theorem dl_426 : decode code 426 = .ok (.iadd, 1) := by decide +kernel
theorem dl_427 : decode code 427 = .ok (.iaload, 1) := by decide +kernel
theorem dl_428 : decode code 428 = .ok (.aload_n 0, 1) := by decide +kernel
theorem dl_429 : decode code 429 = .ok (.iload_n 3, 1) := by decide +kernel
theorem dl_430 : decode code 430 = .ok (.iconst 2, 1) := by decide +kernel
theorem dl_431 : decode code 431 = .ok (.iadd, 1) := by decide +kernel
theorem dl_432 : decode code 432 = .ok (.iaload, 1) := by decide +kernel
theorem dl_433 : decode code 433 = .ok (.aload_n 0, 1) := by decide +kernel
theorem dl_434 : decode code 434 = .ok (.iload_n 3, 1) := by decide +kernel
theorem dl_435 : decode code 435 = .ok (.iconst 3, 1) := by decide +kernel
theorem dl_436 : decode code 436 = .ok (.iadd, 1) := by decide +kernel
theorem dl_437 : decode code 437 = .ok (.iaload, 1) := by decide +kernel
theorem dl_438 : decode code 438 = .ok (.aload_n 0, 1) := by decide +kernel
theorem dl_439 : decode code 439 = .ok (.iload_n 3, 1) := by decide +kernel
theorem dl_440 : decode code 440 = .ok (.iconst 4, 1) := by decide +kernel
theorem dl_441 : decode code 441 = .ok (.iadd, 1) := by decide +kernel
theorem dl_442 : decode code 442 = .ok (.iaload, 1) := by decide +kernel
theorem dl_443 : decode code 443 = .ok (.aload_n 0, 1) := by decide +kernel
theorem dl_444 : decode code 444 = .ok (.iload_n 3, 1) := by decide +kernel
theorem dl_445 : decode code 445 = .ok (.iconst 5, 1) := by decide +kernel
theorem dl_446 : decode code 446 = .ok (.iadd, 1) := by decide +kernel
theorem dl_447 : decode code 447 = .ok (.iaload, 1) := by decide +kernel
theorem dl_448 : decode code 448 = .ok (.aload_n 0, 1) := by decide +kernel
theorem dl_449 : decode code 449 = .ok (.iload_n 3, 1) := by decide +kernel
theorem dl_450 : decode code 450 = .ok (.bipush 6, 2) := by decide +kernel
theorem dl_452 : decode code 452 = .ok (.iadd, 1) := by decide +kernel
theorem dl_453 : decode code 453 = .ok (.iaload, 1) := by decide +kernel
theorem dl_454 : decode code 454 = .ok (.invokevirtual 49, 3) := by decide +kernel
theorem dl_457 : decode code 457 = .ok (.if_icmp .eq 885, 3) := by decide +kernel
theorem dl_460 : decode code 460 = .ok (.iconst 0, 1) := by decide +kernel
theorem dl_461 : decode code 461 = .ok (.ireturn, 1) := by decide +kernel
theorem dl_462 : decode code 462 = .ok (.aload_n 1, 1) := by decide +kernel
theorem dl_463 : decode code 463 = .ok (.aload_n 0, 1) := by decide +kernel
theorem dl_464 : decode code 464 = .ok (.iload_n 3, 1) := by decide +kernel
theorem dl_465 : decode code 465 = .ok (.iconst 1, 1) := by decide +kernel
theorem dl_466 : decode code 466 = .ok (.iadd, 1) := by decide +kernel
theorem dl_467 : decode code 467 = .ok (.iaload, 1) := by decide +kernel
theorem dl_468 : decode code 468 = .ok (.invokevirtual 50, 3) := by decide +kernel
theorem dl_471 : decode code 471 = .ok (.aload_n 2, 1) := by decide +kernel
theorem dl_472 : decode code 472 = .ok (.aload_n 0, 1) := by decide +kernel
theorem dl_473 : decode code 473 = .ok (.iload_n 3, 1) := by decide +kernel
theorem dl_474 : decode code 474 = .ok (.iconst 1, 1) := by decide +kernel
theorem dl_475 : decode code 475 = .ok (.iadd, 1) := by decide +kernel
theorem dl_476 : decode code 476 = .ok (.iaload, 1) := by decide +kernel
theorem dl_477 : decode code 477 = .ok (.invokevirtual 53, 3) := by decide +kernel
theorem dl_480 : decode code 480 = .ok (.if_icmp .eq 862, 3) := by decide +kernel
theorem dl_483 : decode code 483 = .ok (.iconst 0, 1) := by decide +kernel
theorem dl_484 : decode code 484 = .ok (.ireturn, 1) := by decide +kernel
theorem dl_485 : decode code 485 = .ok (.aload_n 1, 1) := by decide +kernel
theorem dl_486 : decode code 486 = .ok (.aload_n 0, 1) := by decide +kernel
theorem dl_487 : decode code 487 = .ok (.iload_n 3, 1) := by decide +kernel
theorem dl_488 : decode code 488 = .ok (.iconst 1, 1) := by decide +kernel
theorem dl_489 : decode code 489 = .ok (.iadd, 1) := by decide +kernel
theorem dl_490 : decode code 490 = .ok (.iaload, 1) := by decide +kernel
theorem dl_491 : decode code 491 = .ok (.aload_n 0, 1) := by decide +kernel
theorem dl_492 : decode code 492 = .ok (.iload_n 3, 1) := by decide +kernel
theorem dl_493 : decode code 493 = .ok (.iconst 2, 1) := by decide +kernel
theorem dl_494 : decode code 494 = .ok (.iadd, 1) := by decide +kernel
theorem dl_495 : decode code 495 = .ok (.iaload, 1) := by decide +kernel
theorem dl_496 : decode code 496 = .ok (.aload_n 0, 1) := by decide +kernel
theorem dl_497 : decode code 497 = .ok (.iload_n 3, 1) := by decide +kernel
theorem dl_498 : decode code 498 = .ok (.iconst 3, 1) := by decide +kernel
theorem dl_499 : decode code 499 = .ok (.iadd, 1) := by decide +kernel
theorem dl_500 : decode code 500 = .ok (.iaload, 1) := by decide +kernel
theorem dl_501 : decode code 501 = .ok (.aload_n 0, 1) := by decide +kernel
theorem dl_502 : decode code 502 = .ok (.iload_n 3, 1) := by decide +kernel
theorem dl_503 : decode code 503 = .ok (.iconst 4, 1) := by decide +kernel
theorem dl_504 : decode code 504 = .ok (.iadd, 1) := by decide +kernel
theorem dl_505 : decode code 505 = .ok (.iaload, 1) := by decide +kernel
theorem dl_506 : decode code 506 = .ok (.invokevirtual 54, 3) := by decide +kernel
theorem dl_509 : decode code 509 = .ok (.aload_n 2, 1) := by decide +kernel
theorem dl_510 : decode code 510 = .ok (.aload_n 0, 1) := by decide +kernel
theorem dl_511 : decode code 511 = .ok (.iload_n 3, 1) := by decide +kernel
theorem dl_512 : decode code 512 = .ok (.iconst 1, 1) := by decide +kernel
theorem dl_513 : decode code 513 = .ok (.iadd, 1) := by decide +kernel
theorem dl_514 : decode code 514 = .ok (.iaload, 1) := by decide +kernel
theorem dl_515 : decode code 515 = .ok (.aload_n 0, 1) := by decide +kernel
theorem dl_516 : decode code 516 = .ok (.iload_n 3, 1) := by decide +kernel
theorem dl_517 : decode code 517 = .ok (.iconst 2, 1) := by decide +kernel
theorem dl_518 : decode code 518 = .ok (.iadd, 1) := by decide +kernel
theorem dl_519 : decode code 519 = .ok (.iaload, 1) := by decide +kernel
theorem dl_520 : decode code 520 = .ok (.aload_n 0, 1) := by decide +kernel
theorem dl_521 : decode code 521 = .ok (.iload_n 3, 1) := by decide +kernel
theorem dl_522 : decode code 522 = .ok (.iconst 3, 1) := by decide +kernel
theorem dl_523 : decode code 523 = .ok (.iadd, 1) := by decide +kernel
theorem dl_524 : decode code 524 = .ok (.iaload, 1) := by decide +kernel
theorem dl_525 : decode code 525 = .ok (.aload_n 0, 1) := by decide +kernel
theorem dl_526 : decode code 526 = .ok (.iload_n 3, 1) := by decide +kernel
theorem dl_527 : decode code 527 = .ok (.iconst 4, 1) := by decide +kernel
theorem dl_528 : decode code 528 = .ok (.iadd, 1) := by decide +kernel
theorem dl_529 : decode code 529 = .ok (.iaload, 1) := by decide +kernel
theorem dl_530 : decode code 530 = .ok (.invokevirtual 58, 3) := by decide +kernel
theorem dl_533 : decode code 533 = .ok (.if_icmp .eq 809, 3) := by decide +kernel
theorem dl_536 : decode code 536 = .ok (.iconst 0, 1) := by decide +kernel
theorem dl_537 : decode code 537 = .ok (.ireturn, 1) := by decide +kernel
theorem dl_538 : decode code 538 = .ok (.aload_n 1, 1) := by decide +kernel
theorem dl_539 : decode code 539 = .ok (.aload_n 0, 1) := by decide +kernel
theorem dl_540 : decode code 540 = .ok (.iload_n 3, 1) := by decide +kernel
theorem dl_541 : decode code 541 = .ok (.iconst 1, 1) := by decide +kernel
theorem dl_542 : decode code 542 = .ok (.iadd, 1) := by decide +kernel
theorem dl_543 : decode code 543 = .ok (.iaload, 1) := by decide +kernel
theorem dl_544 : decode code 544 = .ok (.aload_n 0, 1) := by decide +kernel
theorem dl_545 : decode code 545 = .ok (.iload_n 3, 1) := by decide +kernel
theorem dl_546 : decode code 546 = .ok (.iconst 2, 1) := by decide +kernel
theorem dl_547 : decode code 547 = .ok (.iadd, 1) := by decide +kernel
theorem dl_548 : decode code 548 = .ok (.iaload, 1) := by decide +kernel
theorem dl_549 : decode code 549 = .ok (.aload_n 0, 1) := by decide +kernel
theorem dl_550 : decode code 550 = .ok (.iload_n 3, 1) := by decide +kernel
theorem dl_551 : decode code 551 = .ok (.iconst 3, 1) := by decide +kernel
theorem dl_552 : decode code 552 = .ok (.iadd, 1) := by decide +kernel
theorem dl_553 : decode code 553 = .ok (.iaload, 1) := by decide +kernel
theorem dl_554 : decode code 554 = .ok (.aload_n 0, 1) := by decide +kernel
theorem dl_555 : decode code 555 = .ok (.iload_n 3, 1) := by decide +kernel
theorem dl_556 : decode code 556 = .ok (.iconst 4, 1) := by decide +kernel
theorem dl_557 : decode code 557 = .ok (.iadd, 1) := by decide +kernel
theorem dl_558 : decode code 558 = .ok (.iaload, 1) := by decide +kernel
theorem dl_559 : decode code 559 = .ok (.aload_n 0, 1) := by decide +kernel
theorem dl_560 : decode code 560 = .ok (.iload_n 3, 1) := by decide +kernel
theorem dl_561 : decode code 561 = .ok (.iconst 5, 1) := by decide +kernel
theorem dl_562 : decode code 562 = .ok (.iadd, 1) := by decide +kernel
theorem dl_563 : decode code 563 = .ok (.iaload, 1) := by decide +kernel
theorem dl_564 : decode code 564 = .ok (.invokevirtual 59, 3) := by decide +kernel
theorem dl_567 : decode code 567 = .ok (.aload_n 2, 1) := by decide +kernel
theorem dl_568 : decode code 568 = .ok (.aload_n 0, 1) := by decide +kernel
theorem dl_569 : decode code 569 = .ok (.iload_n 3, 1) := by decide +kernel
theorem dl_570 : decode code 570 = .ok (.iconst 1, 1) := by decide +kernel
theorem dl_571 : decode code 571 = .ok (.iadd, 1) := by decide +kernel
theorem dl_572 : decode code 572 = .ok (.iaload, 1) := by decide +kernel
theorem dl_573 : decode code 573 = .ok (.aload_n 0, 1) := by decide +kernel
theorem dl_574 : decode code 574 = .ok (.iload_n 3, 1) := by decide +kernel
theorem dl_575 : decode code 575 = .ok (.iconst 2, 1) := by decide +kernel
theorem dl_576 : decode code 576 = .ok (.iadd, 1) := by decide +kernel
theorem dl_577 : decode code 577 = .ok (.iaload, 1) := by decide +kernel
theorem dl_578 : decode code 578 = .ok (.aload_n 0, 1) := by decide +kernel
theorem dl_579 : decode code 579 = .ok (.iload_n 3, 1) := by decide +kernel
theorem dl_580 : decode code 580 = .ok (.iconst 3, 1) := by decide +kernel
theorem dl_581 : decode code 581 = .ok (.iadd, 1) := by decide +kernel
theorem dl_582 : decode code 582 = .ok (.iaload, 1) := by decide +kernel
theorem dl_583 : decode code 583 = .ok (.aload_n 0, 1) := by decide +kernel
theorem dl_584 : decode code 584 = .ok (.iload_n 3, 1) := by decide +kernel
theorem dl_585 : decode code 585 = .ok (.iconst 4, 1) := by decide +kernel
theorem dl_586 : decode code 586 = .ok (.iadd, 1) := by decide +kernel
theorem dl_587 : decode code 587 = .ok (.iaload, 1) := by decide +kernel
theorem dl_588 : decode code 588 = .ok (.aload_n 0, 1) := by decide +kernel
theorem dl_589 : decode code 589 = .ok (.iload_n 3, 1) := by decide +kernel
theorem dl_590 : decode code 590 = .ok (.iconst 5, 1) := by decide +kernel
theorem dl_591 : decode code 591 = .ok (.iadd, 1) := by decide +kernel
theorem dl_592 : decode code 592 = .ok (.iaload, 1) := by decide +kernel
theorem dl_593 : decode code 593 = .ok (.invokevirtual 63, 3) := by decide +kernel
theorem dl_596 : decode code 596 = .ok (.if_icmp .eq 746, 3) := by decide +kernel
theorem dl_599 : decode code 599 = .ok (.iconst 0, 1) := by decide +kernel
theorem dl_600 : decode code 600 = .ok (.ireturn, 1) := by decide +kernel
theorem dl_601 : decode code 601 = .ok (.aload_n 1, 1) := by decide +kernel
theorem dl_602 : decode code 602 = .ok (.aload_n 0, 1) := by decide +kernel
theorem dl_603 : decode code 603 = .ok (.iload_n 3, 1) := by decide +kernel
theorem dl_604 : decode code 604 = .ok (.iconst 1, 1) := by decide +kernel
theorem dl_605 : decode code 605 = .ok (.iadd, 1) := by decide +kernel
theorem dl_606 : decode code 606 = .ok (.iaload, 1) := by decide +kernel
theorem dl_607 : decode code 607 = .ok (.aload_n 0, 1) := by decide +kernel
theorem dl_608 : decode code 608 = .ok (.iload_n 3, 1) := by decide +kernel
theorem dl_609 : decode code 609 = .ok (.iconst 2, 1) := by decide +kernel
theorem dl_610 : decode code 610 = .ok (.iadd, 1) := by decide +kernel
theorem dl_611 : decode code 611 = .ok (.iaload, 1) := by decide +kernel
theorem dl_612 : decode code 612 = .ok (.aload_n 0, 1) := by decide +kernel
theorem dl_613 : decode code 613 = .ok (.iload_n 3, 1) := by decide +kernel
theorem dl_614 : decode code 614 = .ok (.iconst 3, 1) := by decide +kernel
theorem dl_615 : decode code 615 = .ok (.iadd, 1) := by decide +kernel
theorem dl_616 : decode code 616 = .ok (.iaload, 1) := by decide +kernel
theorem dl_617 : decode code 617 = .ok (.aload_n 0, 1) := by decide +kernel
theorem dl_618 : decode code 618 = .ok (.iload_n 3, 1) := by decide +kernel
theorem dl_619 : decode code 619 = .ok (.iconst 4, 1) := by decide +kernel
theorem dl_620 : decode code 620 = .ok (.iadd, 1) := by decide +kernel
theorem dl_621 : decode code 621 = .ok (.iaload, 1) := by decide +kernel
theorem dl_622 : decode code 622 = .ok (.aload_n 0, 1) := by decide +kernel
theorem dl_623 : decode code 623 = .ok (.iload_n 3, 1) := by decide +kernel
theorem dl_624 : decode code 624 = .ok (.iconst 5, 1) := by decide +kernel
theorem dl_625 : decode code 625 = .ok (.iadd, 1) := by decide +kernel
theorem dl_626 : decode code 626 = .ok (.iaload, 1) := by decide +kernel
theorem dl_627 : decode code 627 = .ok (.invokevirtual 64, 3) := by decide +kernel
theorem dl_630 : decode code 630 = .ok (.aload_n 2, 1) := by decide +kernel
theorem dl_631 : decode code 631 = .ok (.aload_n 0, 1) := by decide +kernel
theorem dl_632 : decode code 632 = .ok (.iload_n 3, 1) := by decide +kernel
theorem dl_633 : decode code 633 = .ok (.iconst 1, 1) := by decide +kernel
theorem dl_634 : decode code 634 = .ok (.iadd, 1) := by decide +kernel
theorem dl_635 : decode code 635 = .ok (.iaload, 1) := by decide +kernel
theorem dl_636 : decode code 636 = .ok (.aload_n 0, 1) := by decide +kernel
theorem dl_637 : decode code 637 = .ok (.iload_n 3, 1) := by decide +kernel
theorem dl_638 : decode code 638 = .ok (.iconst 2, 1) := by decide +kernel
theorem dl_639 : decode code 639 = .ok (.iadd, 1) := by decide +kernel
theorem dl_640 : decode code 640 = .ok (.iaload, 1) := by decide +kernel
theorem dl_641 : decode code 641 = .ok (.aload_n 0, 1) := by decide +kernel
theorem dl_642 : decode code 642 = .ok (.iload_n 3, 1) := by decide +kernel
theorem dl_643 : decode code 643 = .ok (.iconst 3, 1) := by decide +kernel
theorem dl_644 : decode code 644 = .ok (.iadd, 1) := by decide +kernel
theorem dl_645 : decode code 645 = .ok (.iaload, 1) := by decide +kernel
theorem dl_646 : decode code 646 = .ok (.aload_n 0, 1) := by decide +kernel
theorem dl_647 : decode code 647 = .ok (.iload_n 3, 1) := by decide +kernel
theorem dl_648 : decode code 648 = .ok (.iconst 4, 1) := by decide +kernel
theorem dl_649 : decode code 649 = .ok (.iadd, 1) := by decide +kernel
theorem dl_650 : decode code 650 = .ok (.iaload, 1) := by decide +kernel
theorem dl_651 : decode code 651 = .ok (.aload_n 0, 1) := by decide +kernel
theorem dl_652 : decode code 652 = .ok (.iload_n 3, 1) := by decide +kernel
theorem dl_653 : decode code 653 = .ok (.iconst 5, 1) := by decide +kernel
theorem dl_654 : decode code 654 = .ok (.iadd, 1) := by decide +kernel
theorem dl_655 : decode code 655 = .ok (.iaload, 1) := by decide +kernel
theorem dl_656 : decode code 656 = .ok (.invokevirtual 67, 3) := by decide +kernel
theorem dl_659 : decode code 659 = .ok (.if_icmp .eq 683, 3) := by decide +kernel
theorem dl_662 : decode code 662 = .ok (.iconst 0, 1) := by decide +kernel
theorem dl_663 : decode code 663 = .ok (.ireturn, 1) := by decide +kernel
theorem dl_664 : decode code 664 = .ok (.aload_n 1, 1) := by decide +kernel
theorem dl_665 : decode code 665 = .ok (.aload_n 0, 1) := by decide +kernel
theorem dl_666 : decode code 666 = .ok (.iload_n 3, 1) := by decide +kernel
theorem dl_667 : decode code 667 = .ok (.iconst 1, 1) := by decide +kernel
theorem dl_668 : decode code 668 = .ok (.iadd, 1) := by decide +kernel
theorem dl_669 : decode code 669 = .ok (.iaload, 1) := by decide +kernel
theorem dl_670 : decode code 670 = .ok (.invokevirtual 68, 3) := by decide +kernel
theorem dl_673 : decode code 673 = .ok (.aload_n 2, 1) := by decide +kernel
theorem dl_674 : decode code 674 = .ok (.aload_n 0, 1) := by decide +kernel
theorem dl_675 : decode code 675 = .ok (.iload_n 3, 1) := by decide +kernel
theorem dl_676 : decode code 676 = .ok (.iconst 1, 1) := by decide +kernel
theorem dl_677 : decode code 677 = .ok (.iadd, 1) := by decide +kernel
theorem dl_678 : decode code 678 = .ok (.iaload, 1) := by decide +kernel
theorem dl_679 : decode code 679 = .ok (.invokevirtual 71, 3) := by decide +kernel
theorem dl_682 : decode code 682 = .ok (.if_icmp .eq 660, 3) := by decide +kernel
theorem dl_685 : decode code 685 = .ok (.iconst 0, 1) := by decide +kernel
theorem dl_686 : decode code 686 = .ok (.ireturn, 1) := by decide +kernel
theorem dl_687 : decode code 687 = .ok (.aload_n 1, 1) := by decide +kernel
theorem dl_688 : decode code 688 = .ok (.aload_n 0, 1) := by decide +kernel
theorem dl_689 : decode code 689 = .ok (.iload_n 3, 1) := by decide +kernel
theorem dl_690 : decode code 690 = .ok (.iconst 1, 1) := by decide +kernel
theorem dl_691 : decode code 691 = .ok (.iadd, 1) := by decide +kernel
theorem dl_692 : decode code 692 = .ok (.iaload, 1) := by decide +kernel
theorem dl_693 : decode code 693 = .ok (.aload_n 0, 1) := by decide +kernel
theorem dl_694 : decode code 694 = .ok (.iload_n 3, 1) := by decide +kernel
theorem dl_695 : decode code 695 = .ok (.iconst 2, 1) := by decide +kernel
theorem dl_696 : decode code 696 = .ok (.iadd, 1) := by decide +kernel
theorem dl_697 : decode code 697 = .ok (.iaload, 1) := by decide +kernel
theorem dl_698 : decode code 698 = .ok (.aload_n 0, 1) := by decide +kernel
theorem dl_699 : decode code 699 = .ok (.iload_n 3, 1) := by decide +kernel
theorem dl_700 : decode code 700 = .ok (.iconst 3, 1) := by decide +kernel
theorem dl_701 : decode code 701 = .ok (.iadd, 1) := by decide +kernel
theorem dl_702 : decode code 702 = .ok (.iaload, 1) := by decide +kernel
theorem dl_703 : decode code 703 = .ok (.invokevirtual 72, 3) := by decide +kernel
theorem dl_706 : decode code 706 = .ok (.aload_n 2, 1) := by decide +kernel
theorem dl_707 : decode code 707 = .ok (.aload_n 0, 1) := by decide +kernel
theorem dl_708 : decode code 708 = .ok (.iload_n 3, 1) := by decide +kernel
theorem dl_709 : decode code 709 = .ok (.iconst 1, 1) := by decide +kernel
theorem dl_710 : decode code 710 = .ok (.iadd, 1) := by decide +kernel
theorem dl_711 : decode code 711 = .ok (.iaload, 1) := by decide +kernel
theorem dl_712 : decode code 712 = .ok (.aload_n 0, 1) := by decide +kernel
theorem dl_713 : decode code 713 = .ok (.iload_n 3, 1) := by decide +kernel
theorem dl_714 : decode code 714 = .ok (.iconst 2, 1) := by decide +kernel
theorem dl_715 : decode code 715 = .ok (.iadd, 1) := by decide +kernel
theorem dl_716 : decode code 716 = .ok (.iaload, 1) := by decide +kernel
theorem dl_717 : decode code 717 = .ok (.aload_n 0, 1) := by decide +kernel
theorem dl_718 : decode code 718 = .ok (.iload_n 3, 1) := by decide +kernel
theorem dl_719 : decode code 719 = .ok (.iconst 3, 1) := by decide +kernel
theorem dl_720 : decode code 720 = .ok (.iadd, 1) := by decide +kernel
theorem dl_721 : decode code 721 = .ok (.iaload, 1) := by decide +kernel
theorem dl_722 : decode code 722 = .ok (.invokevirtual 75, 3) := by decide +kernel
theorem dl_725 : decode code 725 = .ok (.lcmp, 1) := by decide +kernel
theorem dl_726 : decode code 726 = .ok (.ifCond .eq 616, 3) := by decide +kernel
theorem dl_729 : decode code 729 = .ok (.iconst 0, 1) := by decide +kernel
theorem dl_730 : decode code 730 = .ok (.ireturn, 1) := by decide +kernel
theorem dl_731 : decode code 731 = .ok (.aload_n 1, 1) := by decide +kernel
theorem dl_732 : decode code 732 = .ok (.aload_n 0, 1) := by decide +kernel
theorem dl_733 : decode code 733 = .ok (.iload_n 3, 1) := by decide +kernel
theorem dl_734 : decode code 734 = .ok (.iconst 1, 1) := by decide +kernel
theorem dl_735 : decode code 735 = .ok (.iadd, 1) := by decide +kernel
theorem dl_736 : decode code 736 = .ok (.iaload, 1) := by decide +kernel
theorem dl_737 : decode code 737 = .ok (.aload_n 0, 1) := by decide +kernel
theorem dl_738 : decode code 738 = .ok (.iload_n 3, 1) := by decide +kernel
theorem dl_739 : decode code 739 = .ok (.iconst 2, 1) := by decide +kernel
theorem dl_740 : decode code 740 = .ok (.iadd, 1) := by decide +kernel
theorem dl_741 : decode code 741 = .ok (.iaload, 1) := by decide +kernel
theorem dl_742 : decode code 742 = .ok (.aload_n 0, 1) := by decide +kernel
theorem dl_743 : decode code 743 = .ok (.iload_n 3, 1) := by decide +kernel
theorem dl_744 : decode code 744 = .ok (.iconst 3, 1) := by decide +kernel
theorem dl_745 : decode code 745 = .ok (.iadd, 1) := by decide +kernel
theorem dl_746 : decode code 746 = .ok (.iaload, 1) := by decide +kernel
theorem dl_747 : decode code 747 = .ok (.invokevirtual 76, 3) := by decide +kernel
theorem dl_750 : decode code 750 = .ok (.aload_n 2, 1) := by decide +kernel
theorem dl_751 : decode code 751 = .ok (.aload_n 0, 1) := by decide +kernel
theorem dl_752 : decode code 752 = .ok (.iload_n 3, 1) := by decide +kernel
theorem dl_753 : decode code 753 = .ok (.iconst 1, 1) := by decide +kernel
theorem dl_754 : decode code 754 = .ok (.iadd, 1) := by decide +kernel
theorem dl_755 : decode code 755 = .ok (.iaload, 1) := by decide +kernel
theorem dl_756 : decode code 756 = .ok (.aload_n 0, 1) := by decide +kernel
theorem dl_757 : decode code 757 = .ok (.iload_n 3, 1) := by decide +kernel
theorem dl_758 : decode code 758 = .ok (.iconst 2, 1) := by decide +kernel
theorem dl_759 : decode code 759 = .ok (.iadd, 1) := by decide +kernel
theorem dl_760 : decode code 760 = .ok (.iaload, 1) := by decide +kernel
theorem dl_761 : decode code 761 = .ok (.aload_n 0, 1) := by decide +kernel
theorem dl_762 : decode code 762 = .ok (.iload_n 3, 1) := by decide +kernel
theorem dl_763 : decode code 763 = .ok (.iconst 3, 1) := by decide +kernel
theorem dl_764 : decode code 764 = .ok (.iadd, 1) := by decide +kernel
theorem dl_765 : decode code 765 = .ok (.iaload, 1) := by decide +kernel
theorem dl_766 : decode code 766 = .ok (.invokevirtual 80, 3) := by decide +kernel
theorem dl_769 : decode code 769 = .ok (.if_icmp .eq 573, 3) := by decide +kernel
theorem dl_772 : decode code 772 = .ok (.iconst 0, 1) := by decide +kernel
theorem dl_773 : decode code 773 = .ok (.ireturn, 1) := by decide +kernel
theorem dl_774 : decode code 774 = .ok (.aload_n 1, 1) := by decide +kernel
theorem dl_775 : decode code 775 = .ok (.aload_n 0, 1) := by decide +kernel
theorem dl_776 : decode code 776 = .ok (.iload_n 3, 1) := by decide +kernel
theorem dl_777 : decode code 777 = .ok (.iconst 1, 1) := by decide +kernel
theorem dl_778 : decode code 778 = .ok (.iadd, 1) := by decide +kernel
theorem dl_779 : decode code 779 = .ok (.iaload, 1) := by decide +kernel
theorem dl_780 : decode code 780 = .ok (.aload_n 0, 1) := by decide +kernel
theorem dl_781 : decode code 781 = .ok (.iload_n 3, 1) := by decide +kernel
theorem dl_782 : decode code 782 = .ok (.iconst 2, 1) := by decide +kernel
theorem dl_783 : decode code 783 = .ok (.iadd, 1) := by decide +kernel
theorem dl_784 : decode code 784 = .ok (.iaload, 1) := by decide +kernel
theorem dl_785 : decode code 785 = .ok (.invokevirtual 81, 3) := by decide +kernel
theorem dl_788 : decode code 788 = .ok (.aload_n 2, 1) := by decide +kernel
theorem dl_789 : decode code 789 = .ok (.aload_n 0, 1) := by decide +kernel
theorem dl_790 : decode code 790 = .ok (.iload_n 3, 1) := by decide +kernel
theorem dl_791 : decode code 791 = .ok (.iconst 1, 1) := by decide +kernel
theorem dl_792 : decode code 792 = .ok (.iadd, 1) := by decide +kernel
theorem dl_793 : decode code 793 = .ok (.iaload, 1) := by decide +kernel
theorem dl_794 : decode code 794 = .ok (.aload_n 0, 1) := by decide +kernel
theorem dl_795 : decode code 795 = .ok (.iload_n 3, 1) := by decide +kernel
theorem dl_796 : decode code 796 = .ok (.iconst 2, 1) := by decide +kernel
theorem dl_797 : decode code 797 = .ok (.iadd, 1) := by decide +kernel
theorem dl_798 : decode code 798 = .ok (.iaload, 1) := by decide +kernel
theorem dl_799 : decode code 799 = .ok (.invokevirtual 85, 3) := by decide +kernel
theorem dl_802 : decode code 802 = .ok (.lcmp, 1) := by decide +kernel
theorem dl_803 : decode code 803 = .ok (.ifCond .eq 539, 3) := by decide +kernel
theorem dl_806 : decode code 806 = .ok (.iconst 0, 1) := by decide +kernel
theorem dl_807 : decode code 807 = .ok (.ireturn, 1) := by decide +kernel
theorem dl_808 : decode code 808 = .ok (.aload_n 1, 1) := by decide +kernel
theorem dl_809 : decode code 809 = .ok (.aload_n 0, 1) := by decide +kernel
theorem dl_810 : decode code 810 = .ok (.iload_n 3, 1) := by decide +kernel
theorem dl_811 : decode code 811 = .ok (.iconst 1, 1) := by decide +kernel
theorem dl_812 : decode code 812 = .ok (.iadd, 1) := by decide +kernel
theorem dl_813 : decode code 813 = .ok (.iaload, 1) := by decide +kernel
theorem dl_814 : decode code 814 = .ok (.aload_n 0, 1) := by decide +kernel
theorem dl_815 : decode code 815 = .ok (.iload_n 3, 1) := by decide +kernel
theorem dl_816 : decode code 816 = .ok (.iconst 2, 1) := by decide +kernel
theorem dl_817 : decode code 817 = .ok (.iadd, 1) := by decide +kernel
theorem dl_818 : decode code 818 = .ok (.iaload, 1) := by decide +kernel
theorem dl_819 : decode code 819 = .ok (.invokevirtual 86, 3) := by decide +kernel
theorem dl_822 : decode code 822 = .ok (.aload_n 2, 1) := by decide +kernel
theorem dl_823 : decode code 823 = .ok (.aload_n 0, 1) := by decide +kernel
theorem dl_824 : decode code 824 = .ok (.iload_n 3, 1) := by decide +kernel
theorem dl_825 : decode code 825 = .ok (.iconst 1, 1) := by decide +kernel
theorem dl_826 : decode code 826 = .ok (.iadd, 1) := by decide +kernel
theorem dl_827 : decode code 827 = .ok (.iaload, 1) := by decide +kernel
theorem dl_828 : decode code 828 = .ok (.aload_n 0, 1) := by decide +kernel
theorem dl_829 : decode code 829 = .ok (.iload_n 3, 1) := by decide +kernel
theorem dl_830 : decode code 830 = .ok (.iconst 2, 1) := by decide +kernel
theorem dl_831 : decode code 831 = .ok (.iadd, 1) := by decide +kernel
theorem dl_832 : decode code 832 = .ok (.iaload, 1) := by decide +kernel
theorem dl_833 : decode code 833 = .ok (.invokevirtual 89, 3) := by decide +kernel
theorem dl_836 : decode code 836 = .ok (.if_icmp .eq 506, 3) := by decide +kernel
theorem dl_839 : decode code 839 = .ok (.iconst 0, 1) := by decide +kernel
theorem dl_840 : decode code 840 = .ok (.ireturn, 1) := by decide +kernel
theorem dl_841 : decode code 841 = .ok (.aload_n 1, 1) := by decide +kernel
theorem dl_842 : decode code 842 = .ok (.aload_n 0, 1) := by decide +kernel
theorem dl_843 : decode code 843 = .ok (.iload_n 3, 1) := by decide +kernel
theorem dl_844 : decode code 844 = .ok (.iconst 1, 1) := by decide +kernel
theorem dl_845 : decode code 845 = .ok (.iadd, 1) := by decide +kernel
theorem dl_846 : decode code 846 = .ok (.iaload, 1) := by decide +kernel
theorem dl_847 : decode code 847 = .ok (.aload_n 0, 1) := by decide +kernel
theorem dl_848 : decode code 848 = .ok (.iload_n 3, 1) := by decide +kernel
theorem dl_849 : decode code 849 = .ok (.iconst 2, 1) := by decide +kernel
theorem dl_850 : decode code 850 = .ok (.iadd, 1) := by decide +kernel
theorem dl_851 : decode code 851 = .ok (.iaload, 1) := by decide +kernel
theorem dl_852 : decode code 852 = .ok (.aload_n 0, 1) := by decide +kernel
theorem dl_853 : decode code 853 = .ok (.iload_n 3, 1) := by decide +kernel
theorem dl_854 : decode code 854 = .ok (.iconst 3, 1) := by decide +kernel
theorem dl_855 : decode code 855 = .ok (.iadd, 1) := by decide +kernel
theorem dl_856 : decode code 856 = .ok (.iaload, 1) := by decide +kernel
theorem dl_857 : decode code 857 = .ok (.aload_n 0, 1) := by decide +kernel
theorem dl_858 : decode code 858 = .ok (.iload_n 3, 1) := by decide +kernel
theorem dl_859 : decode code 859 = .ok (.iconst 4, 1) := by decide +kernel
theorem dl_860 : decode code 860 = .ok (.iadd, 1) := by decide +kernel
theorem dl_861 : decode code 861 = .ok (.iaload, 1) := by decide +kernel
theorem dl_862 : decode code 862 = .ok (.aload_n 0, 1) := by decide +kernel
theorem dl_863 : decode code 863 = .ok (.iload_n 3, 1) := by decide +kernel
theorem dl_864 : decode code 864 = .ok (.iconst 5, 1) := by decide +kernel
theorem dl_865 : decode code 865 = .ok (.iadd, 1) := by decide +kernel
theorem dl_866 : decode code 866 = .ok (.iaload, 1) := by decide +kernel
theorem dl_867 : decode code 867 = .ok (.aload_n 0, 1) := by decide +kernel
theorem dl_868 : decode code 868 = .ok (.iload_n 3, 1) := by decide +kernel
theorem dl_869 : decode code 869 = .ok (.bipush 6, 2) := by decide +kernel
theorem dl_871 : decode code 871 = .ok (.iadd, 1) := by decide +kernel
theorem dl_872 : decode code 872 = .ok (.iaload, 1) := by decide +kernel
theorem dl_873 : decode code 873 = .ok (.invokevirtual 90, 3) := by decide +kernel
theorem dl_876 : decode code 876 = .ok (.aload_n 2, 1) := by decide +kernel
theorem dl_877 : decode code 877 = .ok (.aload_n 0, 1) := by decide +kernel
theorem dl_878 : decode code 878 = .ok (.iload_n 3, 1) := by decide +kernel
theorem dl_879 : decode code 879 = .ok (.iconst 1, 1) := by decide +kernel
theorem dl_880 : decode code 880 = .ok (.iadd, 1) := by decide +kernel
theorem dl_881 : decode code 881 = .ok (.iaload, 1) := by decide +kernel
theorem dl_882 : decode code 882 = .ok (.aload_n 0, 1) := by decide +kernel
theorem dl_883 : decode code 883 = .ok (.iload_n 3, 1) := by decide +kernel
theorem dl_884 : decode code 884 = .ok (.iconst 2, 1) := by decide +kernel
theorem dl_885 : decode code 885 = .ok (.iadd, 1) := by decide +kernel
theorem dl_886 : decode code 886 = .ok (.iaload, 1) := by decide +kernel
theorem dl_887 : decode code 887 = .ok (.aload_n 0, 1) := by decide +kernel
theorem dl_888 : decode code 888 = .ok (.iload_n 3, 1) := by decide +kernel
theorem dl_889 : decode code 889 = .ok (.iconst 3, 1) := by decide +kernel
theorem dl_890 : decode code 890 = .ok (.iadd, 1) := by decide +kernel
theorem dl_891 : decode code 891 = .ok (.iaload, 1) := by decide +kernel
theorem dl_892 : decode code 892 = .ok (.aload_n 0, 1) := by decide +kernel
theorem dl_893 : decode code 893 = .ok (.iload_n 3, 1) := by decide +kernel
theorem dl_894 : decode code 894 = .ok (.iconst 4, 1) := by decide +kernel
theorem dl_895 : decode code 895 = .ok (.iadd, 1) := by decide +kernel
theorem dl_896 : decode code 896 = .ok (.iaload, 1) := by decide +kernel
theorem dl_897 : decode code 897 = .ok (.aload_n 0, 1) := by decide +kernel
theorem dl_898 : decode code 898 = .ok (.iload_n 3, 1) := by decide +kernel
theorem dl_899 : decode code 899 = .ok (.iconst 5, 1) := by decide +kernel
theorem dl_900 : decode code 900 = .ok (.iadd, 1) := by decide +kernel
theorem dl_901 : decode code 901 = .ok (.iaload, 1) := by decide +kernel
theorem dl_902 : decode code 902 = .ok (.aload_n 0, 1) := by decide +kernel
theorem dl_903 : decode code 903 = .ok (.iload_n 3, 1) := by decide +kernel
theorem dl_904 : decode code 904 = .ok (.bipush 6, 2) := by decide +kernel
theorem dl_906 : decode code 906 = .ok (.iadd, 1) := by decide +kernel
theorem dl_907 : decode code 907 = .ok (.iaload, 1) := by decide +kernel
theorem dl_908 : decode code 908 = .ok (.invokevirtual 94, 3) := by decide +kernel
theorem dl_911 : decode code 911 = .ok (.lcmp, 1) := by decide +kernel
theorem dl_912 : decode code 912 = .ok (.ifCond .eq 430, 3) := by decide +kernel
theorem dl_915 : decode code 915 = .ok (.iconst 0, 1) := by decide +kernel
theorem dl_916 : decode code 916 = .ok (.ireturn, 1) := by decide +kernel
theorem dl_917 : decode code 917 = .ok (.aload_n 1, 1) := by decide +kernel
theorem dl_918 : decode code 918 = .ok (.aload_n 0, 1) := by decide +kernel
theorem dl_919 : decode code 919 = .ok (.iload_n 3, 1) := by decide +kernel
theorem dl_920 : decode code 920 = .ok (.iconst 1, 1) := by decide +kernel
theorem dl_921 : decode code 921 = .ok (.iadd, 1) := by decide +kernel
theorem dl_922 : decode code 922 = .ok (.iaload, 1) := by decide +kernel
theorem dl_923 : decode code 923 = .ok (.aload_n 0, 1) := by decide +kernel
theorem dl_924 : decode code 924 = .ok (.iload_n 3, 1) := by decide +kernel
theorem dl_925 : decode code 925 = .ok (.iconst 2, 1) := by decide +kernel
theorem dl_926 : decode code 926 = .ok (.iadd, 1) := by decide +kernel
theorem dl_927 : decode code 927 = .ok (.iaload, 1) := by decide +kernel
theorem dl_928 : decode code 928 = .ok (.aload_n 0, 1) := by decide +kernel
theorem dl_929 : decode code 929 = .ok (.iload_n 3, 1) := by decide +kernel
theorem dl_930 : decode code 930 = .ok (.iconst 3, 1) := by decide +kernel
theorem dl_931 : decode code 931 = .ok (.iadd, 1) := by decide +kernel
theorem dl_932 : decode code 932 = .ok (.iaload, 1) := by decide +kernel
theorem dl_933 : decode code 933 = .ok (.invokevirtual 95, 3) := by decide +kernel
theorem dl_936 : decode code 936 = .ok (.aload_n 2, 1) := by decide +kernel
theorem dl_937 : decode code 937 = .ok (.aload_n 0, 1) := by decide +kernel
theorem dl_938 : decode code 938 = .ok (.iload_n 3, 1) := by decide +kernel
theorem dl_939 : decode code 939 = .ok (.iconst 1, 1) := by decide +kernel
theorem dl_940 : decode code 940 = .ok (.iadd, 1) := by decide +kernel
theorem dl_941 : decode code 941 = .ok (.iaload, 1) := by decide +kernel
theorem dl_942 : decode code 942 = .ok (.aload_n 0, 1) := by decide +kernel
theorem dl_943 : decode code 943 = .ok (.iload_n 3, 1) := by decide +kernel
theorem dl_944 : decode code 944 = .ok (.iconst 2, 1) := by decide +kernel
theorem dl_945 : decode code 945 = .ok (.iadd, 1) := by decide +kernel
theorem dl_946 : decode code 946 = .ok (.iaload, 1) := by decide +kernel
theorem dl_947 : decode code 947 = .ok (.aload_n 0, 1) := by decide +kernel
theorem dl_948 : decode code 948 = .ok (.iload_n 3, 1) := by decide +kernel
theorem dl_949 : decode code 949 = .ok (.iconst 3, 1) := by decide +kernel
theorem dl_950 : decode code 950 = .ok (.iadd, 1) := by decide +kernel
theorem dl_951 : decode code 951 = .ok (.iaload, 1) := by decide +kernel
theorem dl_952 : decode code 952 = .ok (.invokevirtual 98, 3) := by decide +kernel
theorem dl_955 : decode code 955 = .ok (.lcmp, 1) := by decide +kernel
theorem dl_956 : decode code 956 = .ok (.ifCond .eq 386, 3) := by decide +kernel
theorem dl_959 : decode code 959 = .ok (.iconst 0, 1) := by decide +kernel
theorem dl_960 : decode code 960 = .ok (.ireturn, 1) := by decide +kernel
theorem dl_961 : decode code 961 = .ok (.aload_n 1, 1) := by decide +kernel
theorem dl_962 : decode code 962 = .ok (.aload_n 0, 1) := by decide +kernel
theorem dl_963 : decode code 963 = .ok (.iload_n 3, 1) := by decide +kernel
theorem dl_964 : decode code 964 = .ok (.iconst 1, 1) := by decide +kernel
theorem dl_965 : decode code 965 = .ok (.iadd, 1) := by decide +kernel
theorem dl_966 : decode code 966 = .ok (.iaload, 1) := by decide +kernel
theorem dl_967 : decode code 967 = .ok (.aload_n 0, 1) := by decide +kernel
theorem dl_968 : decode code 968 = .ok (.iload_n 3, 1) := by decide +kernel
theorem dl_969 : decode code 969 = .ok (.iconst 2, 1) := by decide +kernel
theorem dl_970 : decode code 970 = .ok (.iadd, 1) := by decide +kernel
theorem dl_971 : decode code 971 = .ok (.iaload, 1) := by decide +kernel
theorem dl_972 : decode code 972 = .ok (.aload_n 0, 1) := by decide +kernel
theorem dl_973 : decode code 973 = .ok (.iload_n 3, 1) := by decide +kernel
theorem dl_974 : decode code 974 = .ok (.iconst 3, 1) := by decide +kernel
theorem dl_975 : decode code 975 = .ok (.iadd, 1) := by decide +kernel
theorem dl_976 : decode code 976 = .ok (.iaload, 1) := by decide +kernel
theorem dl_977 : decode code 977 = .ok (.aload_n 0, 1) := by decide +kernel
theorem dl_978 : decode code 978 = .ok (.iload_n 3, 1) := by decide +kernel
theorem dl_979 : decode code 979 = .ok (.iconst 4, 1) := by decide +kernel
theorem dl_980 : decode code 980 = .ok (.iadd, 1) := by decide +kernel
theorem dl_981 : decode code 981 = .ok (.iaload, 1) := by decide +kernel
theorem dl_982 : decode code 982 = .ok (.aload_n 0, 1) := by decide +kernel
theorem dl_983 : decode code 983 = .ok (.iload_n 3, 1) := by decide +kernel
theorem dl_984 : decode code 984 = .ok (.iconst 5, 1) := by decide +kernel
theorem dl_985 : decode code 985 = .ok (.iadd, 1) := by decide +kernel
theorem dl_986 : decode code 986 = .ok (.iaload, 1) := by decide +kernel
theorem dl_987 : decode code 987 = .ok (.invokevirtual 99, 3) := by decide +kernel
theorem dl_990 : decode code 990 = .ok (.aload_n 2, 1) := by decide +kernel
theorem dl_991 : decode code 991 = .ok (.aload_n 0, 1) := by decide +kernel
theorem dl_992 : decode code 992 = .ok (.iload_n 3, 1) := by decide +kernel
theorem dl_993 : decode code 993 = .ok (.iconst 1, 1) := by decide +kernel
theorem dl_994 : decode code 994 = .ok (.iadd, 1) := by decide +kernel
theorem dl_995 : decode code 995 = .ok (.iaload, 1) := by decide +kernel
theorem dl_996 : decode code 996 = .ok (.aload_n 0, 1) := by decide +kernel
theorem dl_997 : decode code 997 = .ok (.iload_n 3, 1) := by decide +kernel
theorem dl_998 : decode code 998 = .ok (.iconst 2, 1) := by decide +kernel
theorem dl_999 : decode code 999 = .ok (.iadd, 1) := by decide +kernel
theorem dl_1000 : decode code 1000 = .ok (.iaload, 1) := by decide +kernel
theorem dl_1001 : decode code 1001 = .ok (.aload_n 0, 1) := by decide +kernel
theorem dl_1002 : decode code 1002 = .ok (.iload_n 3, 1) := by decide +kernel
theorem dl_1003 : decode code 1003 = .ok (.iconst 3, 1) := by decide +kernel
theorem dl_1004 : decode code 1004 = .ok (.iadd, 1) := by decide +kernel
theorem dl_1005 : decode code 1005 = .ok (.iaload, 1) := by decide +kernel
theorem dl_1006 : decode code 1006 = .ok (.aload_n 0, 1) := by decide +kernel
theorem dl_1007 : decode code 1007 = .ok (.iload_n 3, 1) := by decide +kernel
theorem dl_1008 : decode code 1008 = .ok (.iconst 4, 1) := by decide +kernel
theorem dl_1009 : decode code 1009 = .ok (.iadd, 1) := by decide +kernel
theorem dl_1010 : decode code 1010 = .ok (.iaload, 1) := by decide +kernel
theorem dl_1011 : decode code 1011 = .ok (.aload_n 0, 1) := by decide +kernel
theorem dl_1012 : decode code 1012 = .ok (.iload_n 3, 1) := by decide +kernel
theorem dl_1013 : decode code 1013 = .ok (.iconst 5, 1) := by decide +kernel
theorem dl_1014 : decode code 1014 = .ok (.iadd, 1) := by decide +kernel
theorem dl_1015 : decode code 1015 = .ok (.iaload, 1) := by decide +kernel
theorem dl_1016 : decode code 1016 = .ok (.invokevirtual 102, 3) := by decide +kernel
theorem dl_1019 : decode code 1019 = .ok (.if_icmp .eq 323, 3) := by decide +kernel
theorem dl_1022 : decode code 1022 = .ok (.iconst 0, 1) := by decide +kernel
theorem dl_1023 : decode code 1023 = .ok (.ireturn, 1) := by decide +kernel
theorem dl_1024 : decode code 1024 = .ok (.aload_n 1, 1) := by decide +kernel
theorem dl_1025 : decode code 1025 = .ok (.aload_n 0, 1) := by decide +kernel
theorem dl_1026 : decode code 1026 = .ok (.iload_n 3, 1) := by decide +kernel
theorem dl_1027 : decode code 1027 = .ok (.iconst 1, 1) := by decide +kernel
theorem dl_1028 : decode code 1028 = .ok (.iadd, 1) := by decide +kernel
theorem dl_1029 : decode code 1029 = .ok (.iaload, 1) := by decide +kernel
theorem dl_1030 : decode code 1030 = .ok (.aload_n 0, 1) := by decide +kernel
theorem dl_1031 : decode code 1031 = .ok (.iload_n 3, 1) := by decide +kernel
theorem dl_1032 : decode code 1032 = .ok (.iconst 2, 1) := by decide +kernel
theorem dl_1033 : decode code 1033 = .ok (.iadd, 1) := by decide +kernel
theorem dl_1034 : decode code 1034 = .ok (.iaload, 1) := by decide +kernel
theorem dl_1035 : decode code 1035 = .ok (.invokevirtual 103, 3) := by decide +kernel
theorem dl_1038 : decode code 1038 = .ok (.aload_n 2, 1) := by decide +kernel
theorem dl_1039 : decode code 1039 = .ok (.aload_n 0, 1) := by decide +kernel
theorem dl_1040 : decode code 1040 = .ok (.iload_n 3, 1) := by decide +kernel
theorem dl_1041 : decode code 1041 = .ok (.iconst 1, 1) := by decide +kernel
theorem dl_1042 : decode code 1042 = .ok (.iadd, 1) := by decide +kernel
theorem dl_1043 : decode code 1043 = .ok (.iaload, 1) := by decide +kernel
theorem dl_1044 : decode code 1044 = .ok (.aload_n 0, 1) := by decide +kernel
theorem dl_1045 : decode code 1045 = .ok (.iload_n 3, 1) := by decide +kernel
theorem dl_1046 : decode code 1046 = .ok (.iconst 2, 1) := by decide +kernel
theorem dl_1047 : decode code 1047 = .ok (.iadd, 1) := by decide +kernel
theorem dl_1048 : decode code 1048 = .ok (.iaload, 1) := by decide +kernel
theorem dl_1049 : decode code 1049 = .ok (.invokevirtual 106, 3) := by decide +kernel
theorem dl_1052 : decode code 1052 = .ok (.if_icmp .eq 290, 3) := by decide +kernel
theorem dl_1055 : decode code 1055 = .ok (.iconst 0, 1) := by decide +kernel
theorem dl_1056 : decode code 1056 = .ok (.ireturn, 1) := by decide +kernel
theorem dl_1057 : decode code 1057 = .ok (.aload_n 1, 1) := by decide +kernel
theorem dl_1058 : decode code 1058 = .ok (.aload_n 0, 1) := by decide +kernel
theorem dl_1059 : decode code 1059 = .ok (.iload_n 3, 1) := by decide +kernel
theorem dl_1060 : decode code 1060 = .ok (.iconst 1, 1) := by decide +kernel
theorem dl_1061 : decode code 1061 = .ok (.iadd, 1) := by decide +kernel
theorem dl_1062 : decode code 1062 = .ok (.iaload, 1) := by decide +kernel
theorem dl_1063 : decode code 1063 = .ok (.aload_n 0, 1) := by decide +kernel
theorem dl_1064 : decode code 1064 = .ok (.iload_n 3, 1) := by decide +kernel
theorem dl_1065 : decode code 1065 = .ok (.iconst 2, 1) := by decide +kernel
theorem dl_1066 : decode code 1066 = .ok (.iadd, 1) := by decide +kernel
theorem dl_1067 : decode code 1067 = .ok (.iaload, 1) := by decide +kernel
theorem dl_1068 : decode code 1068 = .ok (.aload_n 0, 1) := by decide +kernel
theorem dl_1069 : decode code 1069 = .ok (.iload_n 3, 1) := by decide +kernel
theorem dl_1070 : decode code 1070 = .ok (.iconst 3, 1) := by decide +kernel
theorem dl_1071 : decode code 1071 = .ok (.iadd, 1) := by decide +kernel
theorem dl_1072 : decode code 1072 = .ok (.iaload, 1) := by decide +kernel
theorem dl_1073 : decode code 1073 = .ok (.aload_n 0, 1) := by decide +kernel
theorem dl_1074 : decode code 1074 = .ok (.iload_n 3, 1) := by decide +kernel
theorem dl_1075 : decode code 1075 = .ok (.iconst 4, 1) := by decide +kernel
theorem dl_1076 : decode code 1076 = .ok (.iadd, 1) := by decide +kernel
theorem dl_1077 : decode code 1077 = .ok (.iaload, 1) := by decide +kernel
theorem dl_1078 : decode code 1078 = .ok (.invokevirtual 107, 3) := by decide +kernel
theorem dl_1081 : decode code 1081 = .ok (.aload_n 2, 1) := by decide +kernel
theorem dl_1082 : decode code 1082 = .ok (.aload_n 0, 1) := by decide +kernel
theorem dl_1083 : decode code 1083 = .ok (.iload_n 3, 1) := by decide +kernel
theorem dl_1084 : decode code 1084 = .ok (.iconst 1, 1) := by decide +kernel
theorem dl_1085 : decode code 1085 = .ok (.iadd, 1) := by decide +kernel
theorem dl_1086 : decode code 1086 = .ok (.iaload, 1) := by decide +kernel
theorem dl_1087 : decode code 1087 = .ok (.aload_n 0, 1) := by decide +kernel
theorem dl_1088 : decode code 1088 = .ok (.iload_n 3, 1) := by decide +kernel
theorem dl_1089 : decode code 1089 = .ok (.iconst 2, 1) := by decide +kernel
theorem dl_1090 : decode code 1090 = .ok (.iadd, 1) := by decide +kernel
theorem dl_1091 : decode code 1091 = .ok (.iaload, 1) := by decide +kernel
theorem dl_1092 : decode code 1092 = .ok (.aload_n 0, 1) := by decide +kernel
theorem dl_1093 : decode code 1093 = .ok (.iload_n 3, 1) := by decide +kernel
theorem dl_1094 : decode code 1094 = .ok (.iconst 3, 1) := by decide +kernel
theorem dl_1095 : decode code 1095 = .ok (.iadd, 1) := by decide +kernel
theorem dl_1096 : decode code 1096 = .ok (.iaload, 1) := by decide +kernel
theorem dl_1097 : decode code 1097 = .ok (.aload_n 0, 1) := by decide +kernel
theorem dl_1098 : decode code 1098 = .ok (.iload_n 3, 1) := by decide +kernel
theorem dl_1099 : decode code 1099 = .ok (.iconst 4, 1) := by decide +kernel
theorem dl_1100 : decode code 1100 = .ok (.iadd, 1) := by decide +kernel
theorem dl_1101 : decode code 1101 = .ok (.iaload, 1) := by decide +kernel
theorem dl_1102 : decode code 1102 = .ok (.invokevirtual 110, 3) := by decide +kernel
theorem dl_1105 : decode code 1105 = .ok (.if_icmp .eq 237, 3) := by decide +kernel
theorem dl_1108 : decode code 1108 = .ok (.iconst 0, 1) := by decide +kernel
theorem dl_1109 : decode code 1109 = .ok (.ireturn, 1) := by decide +kernel
theorem dl_1110 : decode code 1110 = .ok (.aload_n 1, 1) := by decide +kernel
theorem dl_1111 : decode code 1111 = .ok (.invokevirtual 111, 3) := by decide +kernel
theorem dl_1114 : decode code 1114 = .ok (.aload_n 2, 1) := by decide +kernel
theorem dl_1115 : decode code 1115 = .ok (.invokevirtual 115, 3) := by decide +kernel
theorem dl_1118 : decode code 1118 = .ok (.if_icmp .eq 224, 3) := by decide +kernel
theorem dl_1121 : decode code 1121 = .ok (.iconst 0, 1) := by decide +kernel
theorem dl_1122 : decode code 1122 = .ok (.ireturn, 1) := by decide +kernel
theorem dl_1123 : decode code 1123 = .ok (.aload_n 1, 1) := by decide +kernel
theorem dl_1124 : decode code 1124 = .ok (.invokevirtual 116, 3) := by decide +kernel
theorem dl_1127 : decode code 1127 = .ok (.aload_n 2, 1) := by decide +kernel
theorem dl_1128 : decode code 1128 = .ok (.invokevirtual 119, 3) := by decide +kernel
theorem dl_1131 : decode code 1131 = .ok (.if_icmp .eq 211, 3) := by decide +kernel
theorem dl_1134 : decode code 1134 = .ok (.iconst 0, 1) := by decide +kernel
theorem dl_1135 : decode code 1135 = .ok (.ireturn, 1) := by decide +kernel
theorem dl_1136 : decode code 1136 = .ok (.aload_n 1, 1) := by decide +kernel
theorem dl_1137 : decode code 1137 = .ok (.aload_n 0, 1) := by decide +kernel
theorem dl_1138 : decode code 1138 = .ok (.iload_n 3, 1) := by decide +kernel
theorem dl_1139 : decode code 1139 = .ok (.iconst 1, 1) := by decide +kernel
theorem dl_1140 : decode code 1140 = .ok (.iadd, 1) := by decide +kernel
theorem dl_1141 : decode code 1141 = .ok (.iaload, 1) := by decide +kernel
theorem dl_1142 : decode code 1142 = .ok (.invokevirtual 120, 3) := by decide +kernel
theorem dl_1145 : decode code 1145 = .ok (.aload_n 2, 1) := by decide +kernel
theorem dl_1146 : decode code 1146 = .ok (.aload_n 0, 1) := by decide +kernel
theorem dl_1147 : decode code 1147 = .ok (.iload_n 3, 1) := by decide +kernel
theorem dl_1148 : decode code 1148 = .ok (.iconst 1, 1) := by decide +kernel
theorem dl_1149 : decode code 1149 = .ok (.iadd, 1) := by decide +kernel
theorem dl_1150 : decode code 1150 = .ok (.iaload, 1) := by decide +kernel
theorem dl_1151 : decode code 1151 = .ok (.invokevirtual 123, 3) := by decide +kernel
theorem dl_1154 : decode code 1154 = .ok (.if_icmp .eq 188, 3) := by decide +kernel
theorem dl_1157 : decode code 1157 = .ok (.iconst 0, 1) := by decide +kernel
theorem dl_1158 : decode code 1158 = .ok (.ireturn, 1) := by decide +kernel
theorem dl_1159 : decode code 1159 = .ok (.aload_n 1, 1) := by decide +kernel
theorem dl_1160 : decode code 1160 = .ok (.aload_n 0, 1) := by decide +kernel
theorem dl_1161 : decode code 1161 = .ok (.iload_n 3, 1) := by decide +kernel
theorem dl_1162 : decode code 1162 = .ok (.iconst 1, 1) := by decide +kernel
theorem dl_1163 : decode code 1163 = .ok (.iadd, 1) := by decide +kernel
theorem dl_1164 : decode code 1164 = .ok (.iaload, 1) := by decide +kernel
theorem dl_1165 : decode code 1165 = .ok (.aload_n 0, 1) := by decide +kernel
theorem dl_1166 : decode code 1166 = .ok (.iload_n 3, 1) := by decide +kernel
theorem dl_1167 : decode code 1167 = .ok (.iconst 2, 1) := by decide +kernel
theorem dl_1168 : decode code 1168 = .ok (.iadd, 1) := by decide +kernel
theorem dl_1169 : decode code 1169 = .ok (.iaload, 1) := by decide +kernel
theorem dl_1170 : decode code 1170 = .ok (.aload_n 0, 1) := by decide +kernel
theorem dl_1171 : decode code 1171 = .ok (.iload_n 3, 1) := by decide +kernel
theorem dl_1172 : decode code 1172 = .ok (.iconst 3, 1) := by decide +kernel
theorem dl_1173 : decode code 1173 = .ok (.iadd, 1) := by decide +kernel
theorem dl_1174 : decode code 1174 = .ok (.iaload, 1) := by decide +kernel
theorem dl_1175 : decode code 1175 = .ok (.invokevirtual 124, 3) := by decide +kernel
theorem dl_1178 : decode code 1178 = .ok (.aload_n 2, 1) := by decide +kernel
theorem dl_1179 : decode code 1179 = .ok (.aload_n 0, 1) := by decide +kernel
theorem dl_1180 : decode code 1180 = .ok (.iload_n 3, 1) := by decide +kernel
theorem dl_1181 : decode code 1181 = .ok (.iconst 1, 1) := by decide +kernel
theorem dl_1182 : decode code 1182 = .ok (.iadd, 1) := by decide +kernel
theorem dl_1183 : decode code 1183 = .ok (.iaload, 1) := by decide +kernel
theorem dl_1184 : decode code 1184 = .ok (.aload_n 0, 1) := by decide +kernel
theorem dl_1185 : decode code 1185 = .ok (.iload_n 3, 1) := by decide +kernel
theorem dl_1186 : decode code 1186 = .ok (.iconst 2, 1) := by decide +kernel
theorem dl_1187 : decode code 1187 = .ok (.iadd, 1) := by decide +kernel
theorem dl_1188 : decode code 1188 = .ok (.iaload, 1) := by decide +kernel
theorem dl_1189 : decode code 1189 = .ok (.aload_n 0, 1) := by decide +kernel
theorem dl_1190 : decode code 1190 = .ok (.iload_n 3, 1) := by decide +kernel
theorem dl_1191 : decode code 1191 = .ok (.iconst 3, 1) := by decide +kernel
theorem dl_1192 : decode code 1192 = .ok (.iadd, 1) := by decide +kernel
theorem dl_1193 : decode code 1193 = .ok (.iaload, 1) := by decide +kernel
theorem dl_1194 : decode code 1194 = .ok (.invokevirtual 127, 3) := by decide +kernel
theorem dl_1197 : decode code 1197 = .ok (.if_icmp .eq 145, 3) := by decide +kernel
theorem dl_1200 : decode code 1200 = .ok (.iconst 0, 1) := by decide +kernel
theorem dl_1201 : decode code 1201 = .ok (.ireturn, 1) := by decide +kernel
theorem dl_1202 : decode code 1202 = .ok (.aload_n 1, 1) := by decide +kernel
theorem dl_1203 : decode code 1203 = .ok (.aload_n 0, 1) := by decide +kernel
theorem dl_1204 : decode code 1204 = .ok (.iload_n 3, 1) := by decide +kernel
theorem dl_1205 : decode code 1205 = .ok (.iconst 1, 1) := by decide +kernel
theorem dl_1206 : decode code 1206 = .ok (.iadd, 1) := by decide +kernel
theorem dl_1207 : decode code 1207 = .ok (.iaload, 1) := by decide +kernel
theorem dl_1208 : decode code 1208 = .ok (.aload_n 0, 1) := by decide +kernel
theorem dl_1209 : decode code 1209 = .ok (.iload_n 3, 1) := by decide +kernel
theorem dl_1210 : decode code 1210 = .ok (.iconst 2, 1) := by decide +kernel
theorem dl_1211 : decode code 1211 = .ok (.iadd, 1) := by decide +kernel
theorem dl_1212 : decode code 1212 = .ok (.iaload, 1) := by decide +kernel
theorem dl_1213 : decode code 1213 = .ok (.aload_n 0, 1) := by decide +kernel
theorem dl_1214 : decode code 1214 = .ok (.iload_n 3, 1) := by decide +kernel
theorem dl_1215 : decode code 1215 = .ok (.iconst 3, 1) := by decide +kernel
theorem dl_1216 : decode code 1216 = .ok (.iadd, 1) := by decide +kernel
theorem dl_1217 : decode code 1217 = .ok (.iaload, 1) := by decide +kernel
theorem dl_1218 : decode code 1218 = .ok (.invokevirtual 128, 3) := by decide +kernel
theorem dl_1221 : decode code 1221 = .ok (.aload_n 2, 1) := by decide +kernel
theorem dl_1222 : decode code 1222 = .ok (.aload_n 0, 1) := by decide +kernel
theorem dl_1223 : decode code 1223 = .ok (.iload_n 3, 1) := by decide +kernel
theorem dl_1224 : decode code 1224 = .ok (.iconst 1, 1) := by decide +kernel
theorem dl_1225 : decode code 1225 = .ok (.iadd, 1) := by decide +kernel
theorem dl_1226 : decode code 1226 = .ok (.iaload, 1) := by decide +kernel
theorem dl_1227 : decode code 1227 = .ok (.aload_n 0, 1) := by decide +kernel
theorem dl_1228 : decode code 1228 = .ok (.iload_n 3, 1) := by decide +kernel
theorem dl_1229 : decode code 1229 = .ok (.iconst 2, 1) := by decide +kernel
theorem dl_1230 : decode code 1230 = .ok (.iadd, 1) := by decide +kernel
theorem dl_1231 : decode code 1231 = .ok (.iaload, 1) := by decide +kernel
theorem dl_1232 : decode code 1232 = .ok (.aload_n 0, 1) := by decide +kernel
theorem dl_1233 : decode code 1233 = .ok (.iload_n 3, 1) := by decide +kernel
theorem dl_1234 : decode code 1234 = .ok (.iconst 3, 1) := by decide +kernel
theorem dl_1235 : decode code 1235 = .ok (.iadd, 1) := by decide +kernel
theorem dl_1236 : decode code 1236 = .ok (.iaload, 1) := by decide +kernel
theorem dl_1237 : decode code 1237 = .ok (.invokevirtual 131, 3) := by decide +kernel
theorem dl_1240 : decode code 1240 = .ok (.if_icmp .eq 102, 3) := by decide +kernel
theorem dl_1243 : decode code 1243 = .ok (.iconst 0, 1) := by decide +kernel
theorem dl_1244 : decode code 1244 = .ok (.ireturn, 1) := by decide +kernel
theorem dl_1245 : decode code 1245 = .ok (.aload_n 1, 1) := by decide +kernel
theorem dl_1246 : decode code 1246 = .ok (.aload_n 0, 1) := by decide +kernel
theorem dl_1247 : decode code 1247 = .ok (.iload_n 3, 1) := by decide +kernel
theorem dl_1248 : decode code 1248 = .ok (.iconst 1, 1) := by decide +kernel
theorem dl_1249 : decode code 1249 = .ok (.iadd, 1) := by decide +kernel
theorem dl_1250 : decode code 1250 = .ok (.iaload, 1) := by decide +kernel
theorem dl_1251 : decode code 1251 = .ok (.aload_n 0, 1) := by decide +kernel
theorem dl_1252 : decode code 1252 = .ok (.iload_n 3, 1) := by decide +kernel
theorem dl_1253 : decode code 1253 = .ok (.iconst 2, 1) := by decide +kernel
theorem dl_1254 : decode code 1254 = .ok (.iadd, 1) := by decide +kernel
theorem dl_1255 : decode code 1255 = .ok (.iaload, 1) := by decide +kernel
theorem dl_1256 : decode code 1256 = .ok (.invokevirtual 132, 3) := by decide +kernel
theorem dl_1259 : decode code 1259 = .ok (.aload_n 2, 1) := by decide +kernel
theorem dl_1260 : decode code 1260 = .ok (.aload_n 0, 1) := by decide +kernel
theorem dl_1261 : decode code 1261 = .ok (.iload_n 3, 1) := by decide +kernel
theorem dl_1262 : decode code 1262 = .ok (.iconst 1, 1) := by decide +kernel
theorem dl_1263 : decode code 1263 = .ok (.iadd, 1) := by decide +kernel
theorem dl_1264 : decode code 1264 = .ok (.iaload, 1) := by decide +kernel
theorem dl_1265 : decode code 1265 = .ok (.aload_n 0, 1) := by decide +kernel
theorem dl_1266 : decode code 1266 = .ok (.iload_n 3, 1) := by decide +kernel
theorem dl_1267 : decode code 1267 = .ok (.iconst 2, 1) := by decide +kernel
theorem dl_1268 : decode code 1268 = .ok (.iadd, 1) := by decide +kernel
theorem dl_1269 : decode code 1269 = .ok (.iaload, 1) := by decide +kernel
theorem dl_1270 : decode code 1270 = .ok (.invokevirtual 135, 3) := by decide +kernel
theorem dl_1273 : decode code 1273 = .ok (.lcmp, 1) := by decide +kernel
theorem dl_1274 : decode code 1274 = .ok (.ifCond .eq 68, 3) := by decide +kernel
theorem dl_1277 : decode code 1277 = .ok (.iconst 0, 1) := by decide +kernel
theorem dl_1278 : decode code 1278 = .ok (.ireturn, 1) := by decide +kernel
theorem dl_1279 : decode code 1279 = .ok (.aload_n 1, 1) := by decide +kernel
theorem dl_1280 : decode code 1280 = .ok (.aload_n 0, 1) := by decide +kernel
theorem dl_1281 : decode code 1281 = .ok (.iload_n 3, 1) := by decide +kernel
theorem dl_1282 : decode code 1282 = .ok (.iconst 1, 1) := by decide +kernel
theorem dl_1283 : decode code 1283 = .ok (.iadd, 1) := by decide +kernel
theorem dl_1284 : decode code 1284 = .ok (.iaload, 1) := by decide +kernel
theorem dl_1285 : decode code 1285 = .ok (.aload_n 0, 1) := by decide +kernel
theorem dl_1286 : decode code 1286 = .ok (.iload_n 3, 1) := by decide +kernel
theorem dl_1287 : decode code 1287 = .ok (.iconst 2, 1) := by decide +kernel
theorem dl_1288 : decode code 1288 = .ok (.iadd, 1) := by decide +kernel
theorem dl_1289 : decode code 1289 = .ok (.iaload, 1) := by decide +kernel
theorem dl_1290 : decode code 1290 = .ok (.aload_n 0, 1) := by decide +kernel
theorem dl_1291 : decode code 1291 = .ok (.iload_n 3, 1) := by decide +kernel
theorem dl_1292 : decode code 1292 = .ok (.iconst 3, 1) := by decide +kernel
theorem dl_1293 : decode code 1293 = .ok (.iadd, 1) := by decide +kernel
theorem dl_1294 : decode code 1294 = .ok (.iaload, 1) := by decide +kernel
theorem dl_1295 : decode code 1295 = .ok (.aload_n 0, 1) := by decide +kernel
theorem dl_1296 : decode code 1296 = .ok (.iload_n 3, 1) := by decide +kernel
theorem dl_1297 : decode code 1297 = .ok (.iconst 4, 1) := by decide +kernel
theorem dl_1298 : decode code 1298 = .ok (.iadd, 1) := by decide +kernel
theorem dl_1299 : decode code 1299 = .ok (.iaload, 1) := by decide +kernel
theorem dl_1300 : decode code 1300 = .ok (.aload_n 0, 1) := by decide +kernel
theorem dl_1301 : decode code 1301 = .ok (.iload_n 3, 1) := by decide +kernel
theorem dl_1302 : decode code 1302 = .ok (.iconst 5, 1) := by decide +kernel
theorem dl_1303 : decode code 1303 = .ok (.iadd, 1) := by decide +kernel
theorem dl_1304 : decode code 1304 = .ok (.iaload, 1) := by decide +kernel
theorem dl_1305 : decode code 1305 = .ok (.invokevirtual 136, 3) := by decide +kernel
theorem dl_1308 : decode code 1308 = .ok (.aload_n 2, 1) := by decide +kernel
theorem dl_1309 : decode code 1309 = .ok (.aload_n 0, 1) := by decide +kernel
theorem dl_1310 : decode code 1310 = .ok (.iload_n 3, 1) := by decide +kernel
theorem dl_1311 : decode code 1311 = .ok (.iconst 1, 1) := by decide +kernel
theorem dl_1312 : decode code 1312 = .ok (.iadd, 1) := by decide +kernel
theorem dl_1313 : decode code 1313 = .ok (.iaload, 1) := by decide +kernel
theorem dl_1314 : decode code 1314 = .ok (.aload_n 0, 1) := by decide +kernel
theorem dl_1315 : decode code 1315 = .ok (.iload_n 3, 1) := by decide +kernel
theorem dl_1316 : decode code 1316 = .ok (.iconst 2, 1) := by decide +kernel
theorem dl_1317 : decode code 1317 = .ok (.iadd, 1) := by decide +kernel
theorem dl_1318 : decode code 1318 = .ok (.iaload, 1) := by decide +kernel
theorem dl_1319 : decode code 1319 = .ok (.aload_n 0, 1) := by decide +kernel
theorem dl_1320 : decode code 1320 = .ok (.iload_n 3, 1) := by decide +kernel
theorem dl_1321 : decode code 1321 = .ok (.iconst 3, 1) := by decide +kernel
theorem dl_1322 : decode code 1322 = .ok (.iadd, 1) := by decide +kernel
theorem dl_1323 : decode code 1323 = .ok (.iaload, 1) := by decide +kernel
theorem dl_1324 : decode code 1324 = .ok (.aload_n 0, 1) := by decide +kernel
theorem dl_1325 : decode code 1325 = .ok (.iload_n 3, 1) := by decide +kernel
theorem dl_1326 : decode code 1326 = .ok (.iconst 4, 1) := by decide +kernel
theorem dl_1327 : decode code 1327 = .ok (.iadd, 1) := by decide +kernel
theorem dl_1328 : decode code 1328 = .ok (.iaload, 1) := by decide +kernel
theorem dl_1329 : decode code 1329 = .ok (.aload_n 0, 1) := by decide +kernel
theorem dl_1330 : decode code 1330 = .ok (.iload_n 3, 1) := by decide +kernel
theorem dl_1331 : decode code 1331 = .ok (.iconst 5, 1) := by decide +kernel
theorem dl_1332 : decode code 1332 = .ok (.iadd, 1) := by decide +kernel
theorem dl_1333 : decode code 1333 = .ok (.iaload, 1) := by decide +kernel
theorem dl_1334 : decode code 1334 = .ok (.invokevirtual 139, 3) := by decide +kernel
theorem dl_1337 : decode code 1337 = .ok (.if_icmp .eq 5, 3) := by decide +kernel
theorem dl_1340 : decode code 1340 = .ok (.iconst 0, 1) := by decide +kernel
theorem dl_1341 : decode code 1341 = .ok (.ireturn, 1) := by decide +kernel
theorem dl_1342 : decode code 1342 = .ok (.iinc 3 7, 3) := by decide +kernel
theorem dl_1345 : decode code 1345 = .ok (.goto (-1327), 3) := by decide +kernel
theorem dl_1348 : decode code 1348 = .ok (.iconst 1, 1) := by decide +kernel
theorem dl_1349 : decode code 1349 = .ok (.ireturn, 1) := by decide +kernel
