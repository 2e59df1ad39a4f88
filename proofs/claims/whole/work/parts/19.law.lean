/-! The law, walked. -/
theorem dL_law_0 : decode cL_law 0 = .ok (.new 7, 3) := by decide +kernel
theorem dL_law_3 : decode cL_law 3 = .ok (.dup, 1) := by decide +kernel
theorem dL_law_4 : decode cL_law 4 = .ok (.invokespecial 9, 3) := by decide +kernel
theorem dL_law_7 : decode cL_law 7 = .ok (.astore_n 1, 1) := by decide +kernel
theorem dL_law_8 : decode cL_law 8 = .ok (.new 10, 3) := by decide +kernel
theorem dL_law_11 : decode cL_law 11 = .ok (.dup, 1) := by decide +kernel
theorem dL_law_12 : decode cL_law 12 = .ok (.invokespecial 12, 3) := by decide +kernel
theorem dL_law_15 : decode cL_law 15 = .ok (.astore_n 2, 1) := by decide +kernel
theorem dL_law_16 : decode cL_law 16 = .ok (.iconst 0, 1) := by decide +kernel
theorem dL_law_17 : decode cL_law 17 = .ok (.istore_n 3, 1) := by decide +kernel
theorem dL_law_18 : decode cL_law 18 = .ok (.iload_n 3, 1) := by decide +kernel
theorem dL_law_19 : decode cL_law 19 = .ok (.aload_n 0, 1) := by decide +kernel
theorem dL_law_20 : decode cL_law 20 = .ok (.arraylength, 1) := by decide +kernel
theorem dL_law_21 : decode cL_law 21 = .ok (.bipush 6, 2) := by decide +kernel
theorem dL_law_23 : decode cL_law 23 = .ok (.isub, 1) := by decide +kernel
theorem dL_law_24 : decode cL_law 24 = .ok (.if_icmp .gt 1323, 3) := by decide +kernel
theorem dL_law_27 : decode cL_law 27 = .ok (.aload_n 0, 1) := by decide +kernel
theorem dL_law_28 : decode cL_law 28 = .ok (.iload_n 3, 1) := by decide +kernel
theorem dL_law_29 : decode cL_law 29 = .ok (.iaload, 1) := by decide +kernel
theorem dL_law_30 : decode cL_law 30 = .ok (.bipush 63, 2) := by decide +kernel
theorem dL_law_32 : decode cL_law 32 = .ok (.iand, 1) := by decide +kernel
theorem dL_law_33 : decode cL_law 33 = .ok (.tableswitch 1308 0 39 #[175, 208, 251, 284, 307, 370, 393, 426, 469, 492, 515, 548, 581, 614, 647, 670, 693, 716, 739, 762, 795, 818, 851, 874, 897, 920, 953, 986, 1019, 1042, 1065, 1118, 1161, 1194, 1207, 1221, 1235, 1258, 1271, 1294], 175) := by decide +kernel
theorem dL_law_208 : decode cL_law 208 = .ok (.aload_n 1, 1) := by decide +kernel
theorem dL_law_209 : decode cL_law 209 = .ok (.aload_n 0, 1) := by decide +kernel
theorem dL_law_210 : decode cL_law 210 = .ok (.iload_n 3, 1) := by decide +kernel
theorem dL_law_211 : decode cL_law 211 = .ok (.iconst 1, 1) := by decide +kernel
theorem dL_law_212 : decode cL_law 212 = .ok (.iadd, 1) := by decide +kernel
theorem dL_law_213 : decode cL_law 213 = .ok (.iaload, 1) := by decide +kernel
theorem dL_law_214 : decode cL_law 214 = .ok (.aload_n 0, 1) := by decide +kernel
theorem dL_law_215 : decode cL_law 215 = .ok (.iload_n 3, 1) := by decide +kernel
theorem dL_law_216 : decode cL_law 216 = .ok (.iconst 2, 1) := by decide +kernel
theorem dL_law_217 : decode cL_law 217 = .ok (.iadd, 1) := by decide +kernel
theorem dL_law_218 : decode cL_law 218 = .ok (.iaload, 1) := by decide +kernel
theorem dL_law_219 : decode cL_law 219 = .ok (.invokevirtual 13, 3) := by decide +kernel
theorem dL_law_222 : decode cL_law 222 = .ok (.aload_n 2, 1) := by decide +kernel
theorem dL_law_223 : decode cL_law 223 = .ok (.aload_n 0, 1) := by decide +kernel
theorem dL_law_224 : decode cL_law 224 = .ok (.iload_n 3, 1) := by decide +kernel
theorem dL_law_225 : decode cL_law 225 = .ok (.iconst 1, 1) := by decide +kernel
theorem dL_law_226 : decode cL_law 226 = .ok (.iadd, 1) := by decide +kernel
theorem dL_law_227 : decode cL_law 227 = .ok (.iaload, 1) := by decide +kernel
theorem dL_law_228 : decode cL_law 228 = .ok (.aload_n 0, 1) := by decide +kernel
theorem dL_law_229 : decode cL_law 229 = .ok (.iload_n 3, 1) := by decide +kernel
theorem dL_law_230 : decode cL_law 230 = .ok (.iconst 2, 1) := by decide +kernel
theorem dL_law_231 : decode cL_law 231 = .ok (.iadd, 1) := by decide +kernel
theorem dL_law_232 : decode cL_law 232 = .ok (.iaload, 1) := by decide +kernel
theorem dL_law_233 : decode cL_law 233 = .ok (.invokevirtual 17, 3) := by decide +kernel
theorem dL_law_236 : decode cL_law 236 = .ok (.if_icmp .eq 1105, 3) := by decide +kernel
theorem dL_law_239 : decode cL_law 239 = .ok (.iconst 0, 1) := by decide +kernel
theorem dL_law_240 : decode cL_law 240 = .ok (.ireturn, 1) := by decide +kernel
theorem dL_law_241 : decode cL_law 241 = .ok (.aload_n 1, 1) := by decide +kernel
theorem dL_law_242 : decode cL_law 242 = .ok (.aload_n 0, 1) := by decide +kernel
theorem dL_law_243 : decode cL_law 243 = .ok (.iload_n 3, 1) := by decide +kernel
theorem dL_law_244 : decode cL_law 244 = .ok (.iconst 1, 1) := by decide +kernel
theorem dL_law_245 : decode cL_law 245 = .ok (.iadd, 1) := by decide +kernel
theorem dL_law_246 : decode cL_law 246 = .ok (.iaload, 1) := by decide +kernel
theorem dL_law_247 : decode cL_law 247 = .ok (.aload_n 0, 1) := by decide +kernel
theorem dL_law_248 : decode cL_law 248 = .ok (.iload_n 3, 1) := by decide +kernel
theorem dL_law_249 : decode cL_law 249 = .ok (.iconst 2, 1) := by decide +kernel
theorem dL_law_250 : decode cL_law 250 = .ok (.iadd, 1) := by decide +kernel
theorem dL_law_251 : decode cL_law 251 = .ok (.iaload, 1) := by decide +kernel
theorem dL_law_252 : decode cL_law 252 = .ok (.aload_n 0, 1) := by decide +kernel
theorem dL_law_253 : decode cL_law 253 = .ok (.iload_n 3, 1) := by decide +kernel
theorem dL_law_254 : decode cL_law 254 = .ok (.iconst 3, 1) := by decide +kernel
theorem dL_law_255 : decode cL_law 255 = .ok (.iadd, 1) := by decide +kernel
theorem dL_law_256 : decode cL_law 256 = .ok (.iaload, 1) := by decide +kernel
theorem dL_law_257 : decode cL_law 257 = .ok (.invokevirtual 18, 3) := by decide +kernel
theorem dL_law_260 : decode cL_law 260 = .ok (.aload_n 2, 1) := by decide +kernel
theorem dL_law_261 : decode cL_law 261 = .ok (.aload_n 0, 1) := by decide +kernel
theorem dL_law_262 : decode cL_law 262 = .ok (.iload_n 3, 1) := by decide +kernel
theorem dL_law_263 : decode cL_law 263 = .ok (.iconst 1, 1) := by decide +kernel
theorem dL_law_264 : decode cL_law 264 = .ok (.iadd, 1) := by decide +kernel
theorem dL_law_265 : decode cL_law 265 = .ok (.iaload, 1) := by decide +kernel
theorem dL_law_266 : decode cL_law 266 = .ok (.aload_n 0, 1) := by decide +kernel
theorem dL_law_267 : decode cL_law 267 = .ok (.iload_n 3, 1) := by decide +kernel
theorem dL_law_268 : decode cL_law 268 = .ok (.iconst 2, 1) := by decide +kernel
theorem dL_law_269 : decode cL_law 269 = .ok (.iadd, 1) := by decide +kernel
theorem dL_law_270 : decode cL_law 270 = .ok (.iaload, 1) := by decide +kernel
theorem dL_law_271 : decode cL_law 271 = .ok (.aload_n 0, 1) := by decide +kernel
theorem dL_law_272 : decode cL_law 272 = .ok (.iload_n 3, 1) := by decide +kernel
theorem dL_law_273 : decode cL_law 273 = .ok (.iconst 3, 1) := by decide +kernel
theorem dL_law_274 : decode cL_law 274 = .ok (.iadd, 1) := by decide +kernel
theorem dL_law_275 : decode cL_law 275 = .ok (.iaload, 1) := by decide +kernel
theorem dL_law_276 : decode cL_law 276 = .ok (.invokevirtual 22, 3) := by decide +kernel
theorem dL_law_279 : decode cL_law 279 = .ok (.if_icmp .eq 1062, 3) := by decide +kernel
theorem dL_law_282 : decode cL_law 282 = .ok (.iconst 0, 1) := by decide +kernel
theorem dL_law_283 : decode cL_law 283 = .ok (.ireturn, 1) := by decide +kernel
theorem dL_law_284 : decode cL_law 284 = .ok (.aload_n 1, 1) := by decide +kernel
theorem dL_law_285 : decode cL_law 285 = .ok (.aload_n 0, 1) := by decide +kernel
theorem dL_law_286 : decode cL_law 286 = .ok (.iload_n 3, 1) := by decide +kernel
theorem dL_law_287 : decode cL_law 287 = .ok (.iconst 1, 1) := by decide +kernel
theorem dL_law_288 : decode cL_law 288 = .ok (.iadd, 1) := by decide +kernel
theorem dL_law_289 : decode cL_law 289 = .ok (.iaload, 1) := by decide +kernel
theorem dL_law_290 : decode cL_law 290 = .ok (.aload_n 0, 1) := by decide +kernel
theorem dL_law_291 : decode cL_law 291 = .ok (.iload_n 3, 1) := by decide +kernel
theorem dL_law_292 : decode cL_law 292 = .ok (.iconst 2, 1) := by decide +kernel
theorem dL_law_293 : decode cL_law 293 = .ok (.iadd, 1) := by decide +kernel
theorem dL_law_294 : decode cL_law 294 = .ok (.iaload, 1) := by decide +kernel
theorem dL_law_295 : decode cL_law 295 = .ok (.invokevirtual 23, 3) := by decide +kernel
theorem dL_law_298 : decode cL_law 298 = .ok (.aload_n 2, 1) := by decide +kernel
theorem dL_law_299 : decode cL_law 299 = .ok (.aload_n 0, 1) := by decide +kernel
theorem dL_law_300 : decode cL_law 300 = .ok (.iload_n 3, 1) := by decide +kernel
theorem dL_law_301 : decode cL_law 301 = .ok (.iconst 1, 1) := by decide +kernel
theorem dL_law_302 : decode cL_law 302 = .ok (.iadd, 1) := by decide +kernel
theorem dL_law_303 : decode cL_law 303 = .ok (.iaload, 1) := by decide +kernel
theorem dL_law_304 : decode cL_law 304 = .ok (.aload_n 0, 1) := by decide +kernel
theorem dL_law_305 : decode cL_law 305 = .ok (.iload_n 3, 1) := by decide +kernel
theorem dL_law_306 : decode cL_law 306 = .ok (.iconst 2, 1) := by decide +kernel
theorem dL_law_307 : decode cL_law 307 = .ok (.iadd, 1) := by decide +kernel
theorem dL_law_308 : decode cL_law 308 = .ok (.iaload, 1) := by decide +kernel
theorem dL_law_309 : decode cL_law 309 = .ok (.invokevirtual 26, 3) := by decide +kernel
theorem dL_law_312 : decode cL_law 312 = .ok (.if_icmp .eq 1029, 3) := by decide +kernel
theorem dL_law_315 : decode cL_law 315 = .ok (.iconst 0, 1) := by decide +kernel
theorem dL_law_316 : decode cL_law 316 = .ok (.ireturn, 1) := by decide +kernel
theorem dL_law_317 : decode cL_law 317 = .ok (.aload_n 1, 1) := by decide +kernel
theorem dL_law_318 : decode cL_law 318 = .ok (.aload_n 0, 1) := by decide +kernel
theorem dL_law_319 : decode cL_law 319 = .ok (.iload_n 3, 1) := by decide +kernel
theorem dL_law_320 : decode cL_law 320 = .ok (.iconst 1, 1) := by decide +kernel
theorem dL_law_321 : decode cL_law 321 = .ok (.iadd, 1) := by decide +kernel
theorem dL_law_322 : decode cL_law 322 = .ok (.iaload, 1) := by decide +kernel
theorem dL_law_323 : decode cL_law 323 = .ok (.invokevirtual 27, 3) := by decide +kernel
theorem dL_law_326 : decode cL_law 326 = .ok (.aload_n 2, 1) := by decide +kernel
theorem dL_law_327 : decode cL_law 327 = .ok (.aload_n 0, 1) := by decide +kernel
theorem dL_law_328 : decode cL_law 328 = .ok (.iload_n 3, 1) := by decide +kernel
theorem dL_law_329 : decode cL_law 329 = .ok (.iconst 1, 1) := by decide +kernel
theorem dL_law_330 : decode cL_law 330 = .ok (.iadd, 1) := by decide +kernel
theorem dL_law_331 : decode cL_law 331 = .ok (.iaload, 1) := by decide +kernel
theorem dL_law_332 : decode cL_law 332 = .ok (.invokevirtual 31, 3) := by decide +kernel
theorem dL_law_335 : decode cL_law 335 = .ok (.if_icmp .eq 1006, 3) := by decide +kernel
theorem dL_law_338 : decode cL_law 338 = .ok (.iconst 0, 1) := by decide +kernel
theorem dL_law_339 : decode cL_law 339 = .ok (.ireturn, 1) := by decide +kernel
theorem dL_law_340 : decode cL_law 340 = .ok (.aload_n 1, 1) := by decide +kernel
theorem dL_law_341 : decode cL_law 341 = .ok (.aload_n 0, 1) := by decide +kernel
theorem dL_law_342 : decode cL_law 342 = .ok (.iload_n 3, 1) := by decide +kernel
theorem dL_law_343 : decode cL_law 343 = .ok (.iconst 1, 1) := by decide +kernel
theorem dL_law_344 : decode cL_law 344 = .ok (.iadd, 1) := by decide +kernel
theorem dL_law_345 : decode cL_law 345 = .ok (.iaload, 1) := by decide +kernel
theorem dL_law_346 : decode cL_law 346 = .ok (.aload_n 0, 1) := by decide +kernel
theorem dL_law_347 : decode cL_law 347 = .ok (.iload_n 3, 1) := by decide +kernel
theorem dL_law_348 : decode cL_law 348 = .ok (.iconst 2, 1) := by decide +kernel
theorem dL_law_349 : decode cL_law 349 = .ok (.iadd, 1) := by decide +kernel
theorem dL_law_350 : decode cL_law 350 = .ok (.iaload, 1) := by decide +kernel
theorem dL_law_351 : decode cL_law 351 = .ok (.aload_n 0, 1) := by decide +kernel
theorem dL_law_352 : decode cL_law 352 = .ok (.iload_n 3, 1) := by decide +kernel
theorem dL_law_353 : decode cL_law 353 = .ok (.iconst 3, 1) := by decide +kernel
theorem dL_law_354 : decode cL_law 354 = .ok (.iadd, 1) := by decide +kernel
theorem dL_law_355 : decode cL_law 355 = .ok (.iaload, 1) := by decide +kernel
theorem dL_law_356 : decode cL_law 356 = .ok (.aload_n 0, 1) := by decide +kernel
theorem dL_law_357 : decode cL_law 357 = .ok (.iload_n 3, 1) := by decide +kernel
theorem dL_law_358 : decode cL_law 358 = .ok (.iconst 4, 1) := by decide +kernel
theorem dL_law_359 : decode cL_law 359 = .ok (.iadd, 1) := by decide +kernel
theorem dL_law_360 : decode cL_law 360 = .ok (.iaload, 1) := by decide +kernel
theorem dL_law_361 : decode cL_law 361 = .ok (.aload_n 0, 1) := by decide +kernel
theorem dL_law_362 : decode cL_law 362 = .ok (.iload_n 3, 1) := by decide +kernel
theorem dL_law_363 : decode cL_law 363 = .ok (.iconst 5, 1) := by decide +kernel
theorem dL_law_364 : decode cL_law 364 = .ok (.iadd, 1) := by decide +kernel
theorem dL_law_365 : decode cL_law 365 = .ok (.iaload, 1) := by decide +kernel
theorem dL_law_366 : decode cL_law 366 = .ok (.invokevirtual 32, 3) := by decide +kernel
theorem dL_law_369 : decode cL_law 369 = .ok (.aload_n 2, 1) := by decide +kernel
theorem dL_law_370 : decode cL_law 370 = .ok (.aload_n 0, 1) := by decide +kernel
theorem dL_law_371 : decode cL_law 371 = .ok (.iload_n 3, 1) := by decide +kernel
theorem dL_law_372 : decode cL_law 372 = .ok (.iconst 1, 1) := by decide +kernel
theorem dL_law_373 : decode cL_law 373 = .ok (.iadd, 1) := by decide +kernel
theorem dL_law_374 : decode cL_law 374 = .ok (.iaload, 1) := by decide +kernel
theorem dL_law_375 : decode cL_law 375 = .ok (.aload_n 0, 1) := by decide +kernel
theorem dL_law_376 : decode cL_law 376 = .ok (.iload_n 3, 1) := by decide +kernel
theorem dL_law_377 : decode cL_law 377 = .ok (.iconst 2, 1) := by decide +kernel
theorem dL_law_378 : decode cL_law 378 = .ok (.iadd, 1) := by decide +kernel
theorem dL_law_379 : decode cL_law 379 = .ok (.iaload, 1) := by decide +kernel
theorem dL_law_380 : decode cL_law 380 = .ok (.aload_n 0, 1) := by decide +kernel
theorem dL_law_381 : decode cL_law 381 = .ok (.iload_n 3, 1) := by decide +kernel
theorem dL_law_382 : decode cL_law 382 = .ok (.iconst 3, 1) := by decide +kernel
theorem dL_law_383 : decode cL_law 383 = .ok (.iadd, 1) := by decide +kernel
theorem dL_law_384 : decode cL_law 384 = .ok (.iaload, 1) := by decide +kernel
theorem dL_law_385 : decode cL_law 385 = .ok (.aload_n 0, 1) := by decide +kernel
theorem dL_law_386 : decode cL_law 386 = .ok (.iload_n 3, 1) := by decide +kernel
theorem dL_law_387 : decode cL_law 387 = .ok (.iconst 4, 1) := by decide +kernel
theorem dL_law_388 : decode cL_law 388 = .ok (.iadd, 1) := by decide +kernel
theorem dL_law_389 : decode cL_law 389 = .ok (.iaload, 1) := by decide +kernel
theorem dL_law_390 : decode cL_law 390 = .ok (.aload_n 0, 1) := by decide +kernel
theorem dL_law_391 : decode cL_law 391 = .ok (.iload_n 3, 1) := by decide +kernel
theorem dL_law_392 : decode cL_law 392 = .ok (.iconst 5, 1) := by decide +kernel
theorem dL_law_393 : decode cL_law 393 = .ok (.iadd, 1) := by decide +kernel
theorem dL_law_394 : decode cL_law 394 = .ok (.iaload, 1) := by decide +kernel
theorem dL_law_395 : decode cL_law 395 = .ok (.invokevirtual 36, 3) := by decide +kernel
theorem dL_law_398 : decode cL_law 398 = .ok (.if_icmp .eq 943, 3) := by decide +kernel
theorem dL_law_401 : decode cL_law 401 = .ok (.iconst 0, 1) := by decide +kernel
theorem dL_law_402 : decode cL_law 402 = .ok (.ireturn, 1) := by decide +kernel
theorem dL_law_403 : decode cL_law 403 = .ok (.aload_n 1, 1) := by decide +kernel
theorem dL_law_404 : decode cL_law 404 = .ok (.aload_n 0, 1) := by decide +kernel
theorem dL_law_405 : decode cL_law 405 = .ok (.iload_n 3, 1) := by decide +kernel
theorem dL_law_406 : decode cL_law 406 = .ok (.iconst 1, 1) := by decide +kernel
theorem dL_law_407 : decode cL_law 407 = .ok (.iadd, 1) := by decide +kernel
theorem dL_law_408 : decode cL_law 408 = .ok (.iaload, 1) := by decide +kernel
theorem dL_law_409 : decode cL_law 409 = .ok (.invokevirtual 37, 3) := by decide +kernel
theorem dL_law_412 : decode cL_law 412 = .ok (.aload_n 2, 1) := by decide +kernel
theorem dL_law_413 : decode cL_law 413 = .ok (.aload_n 0, 1) := by decide +kernel
theorem dL_law_414 : decode cL_law 414 = .ok (.iload_n 3, 1) := by decide +kernel
theorem dL_law_415 : decode cL_law 415 = .ok (.iconst 1, 1) := by decide +kernel
theorem dL_law_416 : decode cL_law 416 = .ok (.iadd, 1) := by decide +kernel
theorem dL_law_417 : decode cL_law 417 = .ok (.iaload, 1) := by decide +kernel
theorem dL_law_418 : decode cL_law 418 = .ok (.invokevirtual 40, 3) := by decide +kernel
theorem dL_law_421 : decode cL_law 421 = .ok (.if_icmp .eq 920, 3) := by decide +kernel
theorem dL_law_424 : decode cL_law 424 = .ok (.iconst 0, 1) := by decide +kernel
theorem dL_law_425 : decode cL_law 425 = .ok (.ireturn, 1) := by decide +kernel
theorem dL_law_426 : decode cL_law 426 = .ok (.aload_n 1, 1) := by decide +kernel
theorem dL_law_427 : decode cL_law 427 = .ok (.aload_n 0, 1) := by decide +kernel
theorem dL_law_428 : decode cL_law 428 = .ok (.iload_n 3, 1) := by decide +kernel
theorem dL_law_429 : decode cL_law 429 = .ok (.iconst 1, 1) := by decide +kernel
theorem dL_law_430 : decode cL_law 430 = .ok (.iadd, 1) := by decide +kernel
theorem dL_law_431 : decode cL_law 431 = .ok (.iaload, 1) := by decide +kernel
theorem dL_law_432 : decode cL_law 432 = .ok (.aload_n 0, 1) := by decide +kernel
theorem dL_law_433 : decode cL_law 433 = .ok (.iload_n 3, 1) := by decide +kernel
theorem dL_law_434 : decode cL_law 434 = .ok (.iconst 2, 1) := by decide +kernel
theorem dL_law_435 : decode cL_law 435 = .ok (.iadd, 1) := by decide +kernel
theorem dL_law_436 : decode cL_law 436 = .ok (.iaload, 1) := by decide +kernel
theorem dL_law_437 : decode cL_law 437 = .ok (.invokevirtual 41, 3) := by decide +kernel
theorem dL_law_440 : decode cL_law 440 = .ok (.aload_n 2, 1) := by decide +kernel
theorem dL_law_441 : decode cL_law 441 = .ok (.aload_n 0, 1) := by decide +kernel
theorem dL_law_442 : decode cL_law 442 = .ok (.iload_n 3, 1) := by decide +kernel
theorem dL_law_443 : decode cL_law 443 = .ok (.iconst 1, 1) := by decide +kernel
theorem dL_law_444 : decode cL_law 444 = .ok (.iadd, 1) := by decide +kernel
theorem dL_law_445 : decode cL_law 445 = .ok (.iaload, 1) := by decide +kernel
theorem dL_law_446 : decode cL_law 446 = .ok (.aload_n 0, 1) := by decide +kernel
theorem dL_law_447 : decode cL_law 447 = .ok (.iload_n 3, 1) := by decide +kernel
theorem dL_law_448 : decode cL_law 448 = .ok (.iconst 2, 1) := by decide +kernel
theorem dL_law_449 : decode cL_law 449 = .ok (.iadd, 1) := by decide +kernel
theorem dL_law_450 : decode cL_law 450 = .ok (.iaload, 1) := by decide +kernel
theorem dL_law_451 : decode cL_law 451 = .ok (.invokevirtual 44, 3) := by decide +kernel
theorem dL_law_454 : decode cL_law 454 = .ok (.if_icmp .eq 887, 3) := by decide +kernel
theorem dL_law_457 : decode cL_law 457 = .ok (.iconst 0, 1) := by decide +kernel
theorem dL_law_458 : decode cL_law 458 = .ok (.ireturn, 1) := by decide +kernel
theorem dL_law_459 : decode cL_law 459 = .ok (.aload_n 1, 1) := by decide +kernel
theorem dL_law_460 : decode cL_law 460 = .ok (.aload_n 0, 1) := by decide +kernel
theorem dL_law_461 : decode cL_law 461 = .ok (.iload_n 3, 1) := by decide +kernel
theorem dL_law_462 : decode cL_law 462 = .ok (.iconst 1, 1) := by decide +kernel
theorem dL_law_463 : decode cL_law 463 = .ok (.iadd, 1) := by decide +kernel
theorem dL_law_464 : decode cL_law 464 = .ok (.iaload, 1) := by decide +kernel
theorem dL_law_465 : decode cL_law 465 = .ok (.aload_n 0, 1) := by decide +kernel
theorem dL_law_466 : decode cL_law 466 = .ok (.iload_n 3, 1) := by decide +kernel
theorem dL_law_467 : decode cL_law 467 = .ok (.iconst 2, 1) := by decide +kernel
theorem dL_law_468 : decode cL_law 468 = .ok (.iadd, 1) := by decide +kernel
theorem dL_law_469 : decode cL_law 469 = .ok (.iaload, 1) := by decide +kernel
theorem dL_law_470 : decode cL_law 470 = .ok (.aload_n 0, 1) := by decide +kernel
theorem dL_law_471 : decode cL_law 471 = .ok (.iload_n 3, 1) := by decide +kernel
theorem dL_law_472 : decode cL_law 472 = .ok (.iconst 3, 1) := by decide +kernel
theorem dL_law_473 : decode cL_law 473 = .ok (.iadd, 1) := by decide +kernel
theorem dL_law_474 : decode cL_law 474 = .ok (.iaload, 1) := by decide +kernel
theorem dL_law_475 : decode cL_law 475 = .ok (.invokevirtual 45, 3) := by decide +kernel
theorem dL_law_478 : decode cL_law 478 = .ok (.aload_n 2, 1) := by decide +kernel
theorem dL_law_479 : decode cL_law 479 = .ok (.aload_n 0, 1) := by decide +kernel
theorem dL_law_480 : decode cL_law 480 = .ok (.iload_n 3, 1) := by decide +kernel
theorem dL_law_481 : decode cL_law 481 = .ok (.iconst 1, 1) := by decide +kernel
theorem dL_law_482 : decode cL_law 482 = .ok (.iadd, 1) := by decide +kernel
theorem dL_law_483 : decode cL_law 483 = .ok (.iaload, 1) := by decide +kernel
theorem dL_law_484 : decode cL_law 484 = .ok (.aload_n 0, 1) := by decide +kernel
theorem dL_law_485 : decode cL_law 485 = .ok (.iload_n 3, 1) := by decide +kernel
theorem dL_law_486 : decode cL_law 486 = .ok (.iconst 2, 1) := by decide +kernel
theorem dL_law_487 : decode cL_law 487 = .ok (.iadd, 1) := by decide +kernel
theorem dL_law_488 : decode cL_law 488 = .ok (.iaload, 1) := by decide +kernel
theorem dL_law_489 : decode cL_law 489 = .ok (.aload_n 0, 1) := by decide +kernel
theorem dL_law_490 : decode cL_law 490 = .ok (.iload_n 3, 1) := by decide +kernel
theorem dL_law_491 : decode cL_law 491 = .ok (.iconst 3, 1) := by decide +kernel
theorem dL_law_492 : decode cL_law 492 = .ok (.iadd, 1) := by decide +kernel
theorem dL_law_493 : decode cL_law 493 = .ok (.iaload, 1) := by decide +kernel
theorem dL_law_494 : decode cL_law 494 = .ok (.invokevirtual 48, 3) := by decide +kernel
theorem dL_law_497 : decode cL_law 497 = .ok (.if_icmp .eq 844, 3) := by decide +kernel
theorem dL_law_500 : decode cL_law 500 = .ok (.iconst 0, 1) := by decide +kernel
theorem dL_law_501 : decode cL_law 501 = .ok (.ireturn, 1) := by decide +kernel
theorem dL_law_502 : decode cL_law 502 = .ok (.aload_n 1, 1) := by decide +kernel
theorem dL_law_503 : decode cL_law 503 = .ok (.aload_n 0, 1) := by decide +kernel
theorem dL_law_504 : decode cL_law 504 = .ok (.iload_n 3, 1) := by decide +kernel
theorem dL_law_505 : decode cL_law 505 = .ok (.iconst 1, 1) := by decide +kernel
theorem dL_law_506 : decode cL_law 506 = .ok (.iadd, 1) := by decide +kernel
theorem dL_law_507 : decode cL_law 507 = .ok (.iaload, 1) := by decide +kernel
theorem dL_law_508 : decode cL_law 508 = .ok (.invokevirtual 49, 3) := by decide +kernel
theorem dL_law_511 : decode cL_law 511 = .ok (.aload_n 2, 1) := by decide +kernel
theorem dL_law_512 : decode cL_law 512 = .ok (.aload_n 0, 1) := by decide +kernel
theorem dL_law_513 : decode cL_law 513 = .ok (.iload_n 3, 1) := by decide +kernel
theorem dL_law_514 : decode cL_law 514 = .ok (.iconst 1, 1) := by decide +kernel
theorem dL_law_515 : decode cL_law 515 = .ok (.iadd, 1) := by decide +kernel
theorem dL_law_516 : decode cL_law 516 = .ok (.iaload, 1) := by decide +kernel
theorem dL_law_517 : decode cL_law 517 = .ok (.invokevirtual 52, 3) := by decide +kernel
theorem dL_law_520 : decode cL_law 520 = .ok (.if_icmp .eq 821, 3) := by decide +kernel
theorem dL_law_523 : decode cL_law 523 = .ok (.iconst 0, 1) := by decide +kernel
theorem dL_law_524 : decode cL_law 524 = .ok (.ireturn, 1) := by decide +kernel
theorem dL_law_525 : decode cL_law 525 = .ok (.aload_n 1, 1) := by decide +kernel
theorem dL_law_526 : decode cL_law 526 = .ok (.aload_n 0, 1) := by decide +kernel
theorem dL_law_527 : decode cL_law 527 = .ok (.iload_n 3, 1) := by decide +kernel
theorem dL_law_528 : decode cL_law 528 = .ok (.iconst 1, 1) := by decide +kernel
theorem dL_law_529 : decode cL_law 529 = .ok (.iadd, 1) := by decide +kernel
theorem dL_law_530 : decode cL_law 530 = .ok (.iaload, 1) := by decide +kernel
theorem dL_law_531 : decode cL_law 531 = .ok (.invokevirtual 53, 3) := by decide +kernel
theorem dL_law_534 : decode cL_law 534 = .ok (.aload_n 2, 1) := by decide +kernel
theorem dL_law_535 : decode cL_law 535 = .ok (.aload_n 0, 1) := by decide +kernel
theorem dL_law_536 : decode cL_law 536 = .ok (.iload_n 3, 1) := by decide +kernel
theorem dL_law_537 : decode cL_law 537 = .ok (.iconst 1, 1) := by decide +kernel
theorem dL_law_538 : decode cL_law 538 = .ok (.iadd, 1) := by decide +kernel
theorem dL_law_539 : decode cL_law 539 = .ok (.iaload, 1) := by decide +kernel
theorem dL_law_540 : decode cL_law 540 = .ok (.invokevirtual 56, 3) := by decide +kernel
theorem dL_law_543 : decode cL_law 543 = .ok (.if_icmp .eq 798, 3) := by decide +kernel
theorem dL_law_546 : decode cL_law 546 = .ok (.iconst 0, 1) := by decide +kernel
theorem dL_law_547 : decode cL_law 547 = .ok (.ireturn, 1) := by decide +kernel
theorem dL_law_548 : decode cL_law 548 = .ok (.aload_n 1, 1) := by decide +kernel
theorem dL_law_549 : decode cL_law 549 = .ok (.aload_n 0, 1) := by decide +kernel
theorem dL_law_550 : decode cL_law 550 = .ok (.iload_n 3, 1) := by decide +kernel
theorem dL_law_551 : decode cL_law 551 = .ok (.iconst 1, 1) := by decide +kernel
theorem dL_law_552 : decode cL_law 552 = .ok (.iadd, 1) := by decide +kernel
theorem dL_law_553 : decode cL_law 553 = .ok (.iaload, 1) := by decide +kernel
theorem dL_law_554 : decode cL_law 554 = .ok (.aload_n 0, 1) := by decide +kernel
theorem dL_law_555 : decode cL_law 555 = .ok (.iload_n 3, 1) := by decide +kernel
theorem dL_law_556 : decode cL_law 556 = .ok (.iconst 2, 1) := by decide +kernel
theorem dL_law_557 : decode cL_law 557 = .ok (.iadd, 1) := by decide +kernel
theorem dL_law_558 : decode cL_law 558 = .ok (.iaload, 1) := by decide +kernel
theorem dL_law_559 : decode cL_law 559 = .ok (.invokevirtual 57, 3) := by decide +kernel
theorem dL_law_562 : decode cL_law 562 = .ok (.aload_n 2, 1) := by decide +kernel
theorem dL_law_563 : decode cL_law 563 = .ok (.aload_n 0, 1) := by decide +kernel
theorem dL_law_564 : decode cL_law 564 = .ok (.iload_n 3, 1) := by decide +kernel
theorem dL_law_565 : decode cL_law 565 = .ok (.iconst 1, 1) := by decide +kernel
theorem dL_law_566 : decode cL_law 566 = .ok (.iadd, 1) := by decide +kernel
theorem dL_law_567 : decode cL_law 567 = .ok (.iaload, 1) := by decide +kernel
theorem dL_law_568 : decode cL_law 568 = .ok (.aload_n 0, 1) := by decide +kernel
theorem dL_law_569 : decode cL_law 569 = .ok (.iload_n 3, 1) := by decide +kernel
theorem dL_law_570 : decode cL_law 570 = .ok (.iconst 2, 1) := by decide +kernel
theorem dL_law_571 : decode cL_law 571 = .ok (.iadd, 1) := by decide +kernel
theorem dL_law_572 : decode cL_law 572 = .ok (.iaload, 1) := by decide +kernel
theorem dL_law_573 : decode cL_law 573 = .ok (.invokevirtual 60, 3) := by decide +kernel
theorem dL_law_576 : decode cL_law 576 = .ok (.if_icmp .eq 765, 3) := by decide +kernel
theorem dL_law_579 : decode cL_law 579 = .ok (.iconst 0, 1) := by decide +kernel
theorem dL_law_580 : decode cL_law 580 = .ok (.ireturn, 1) := by decide +kernel
theorem dL_law_581 : decode cL_law 581 = .ok (.aload_n 1, 1) := by decide +kernel
theorem dL_law_582 : decode cL_law 582 = .ok (.aload_n 0, 1) := by decide +kernel
theorem dL_law_583 : decode cL_law 583 = .ok (.iload_n 3, 1) := by decide +kernel
theorem dL_law_584 : decode cL_law 584 = .ok (.iconst 1, 1) := by decide +kernel
theorem dL_law_585 : decode cL_law 585 = .ok (.iadd, 1) := by decide +kernel
theorem dL_law_586 : decode cL_law 586 = .ok (.iaload, 1) := by decide +kernel
theorem dL_law_587 : decode cL_law 587 = .ok (.aload_n 0, 1) := by decide +kernel
theorem dL_law_588 : decode cL_law 588 = .ok (.iload_n 3, 1) := by decide +kernel
theorem dL_law_589 : decode cL_law 589 = .ok (.iconst 2, 1) := by decide +kernel
theorem dL_law_590 : decode cL_law 590 = .ok (.iadd, 1) := by decide +kernel
theorem dL_law_591 : decode cL_law 591 = .ok (.iaload, 1) := by decide +kernel
theorem dL_law_592 : decode cL_law 592 = .ok (.invokevirtual 61, 3) := by decide +kernel
theorem dL_law_595 : decode cL_law 595 = .ok (.aload_n 2, 1) := by decide +kernel
theorem dL_law_596 : decode cL_law 596 = .ok (.aload_n 0, 1) := by decide +kernel
theorem dL_law_597 : decode cL_law 597 = .ok (.iload_n 3, 1) := by decide +kernel
theorem dL_law_598 : decode cL_law 598 = .ok (.iconst 1, 1) := by decide +kernel
theorem dL_law_599 : decode cL_law 599 = .ok (.iadd, 1) := by decide +kernel
theorem dL_law_600 : decode cL_law 600 = .ok (.iaload, 1) := by decide +kernel
theorem dL_law_601 : decode cL_law 601 = .ok (.aload_n 0, 1) := by decide +kernel
theorem dL_law_602 : decode cL_law 602 = .ok (.iload_n 3, 1) := by decide +kernel
theorem dL_law_603 : decode cL_law 603 = .ok (.iconst 2, 1) := by decide +kernel
theorem dL_law_604 : decode cL_law 604 = .ok (.iadd, 1) := by decide +kernel
theorem dL_law_605 : decode cL_law 605 = .ok (.iaload, 1) := by decide +kernel
theorem dL_law_606 : decode cL_law 606 = .ok (.invokevirtual 64, 3) := by decide +kernel
theorem dL_law_609 : decode cL_law 609 = .ok (.if_icmp .eq 732, 3) := by decide +kernel
theorem dL_law_612 : decode cL_law 612 = .ok (.iconst 0, 1) := by decide +kernel
theorem dL_law_613 : decode cL_law 613 = .ok (.ireturn, 1) := by decide +kernel
theorem dL_law_614 : decode cL_law 614 = .ok (.aload_n 1, 1) := by decide +kernel
theorem dL_law_615 : decode cL_law 615 = .ok (.aload_n 0, 1) := by decide +kernel
theorem dL_law_616 : decode cL_law 616 = .ok (.iload_n 3, 1) := by decide +kernel
theorem dL_law_617 : decode cL_law 617 = .ok (.iconst 1, 1) := by decide +kernel
theorem dL_law_618 : decode cL_law 618 = .ok (.iadd, 1) := by decide +kernel
theorem dL_law_619 : decode cL_law 619 = .ok (.iaload, 1) := by decide +kernel
theorem dL_law_620 : decode cL_law 620 = .ok (.aload_n 0, 1) := by decide +kernel
theorem dL_law_621 : decode cL_law 621 = .ok (.iload_n 3, 1) := by decide +kernel
theorem dL_law_622 : decode cL_law 622 = .ok (.iconst 2, 1) := by decide +kernel
theorem dL_law_623 : decode cL_law 623 = .ok (.iadd, 1) := by decide +kernel
theorem dL_law_624 : decode cL_law 624 = .ok (.iaload, 1) := by decide +kernel
theorem dL_law_625 : decode cL_law 625 = .ok (.invokevirtual 65, 3) := by decide +kernel
theorem dL_law_628 : decode cL_law 628 = .ok (.aload_n 2, 1) := by decide +kernel
theorem dL_law_629 : decode cL_law 629 = .ok (.aload_n 0, 1) := by decide +kernel
theorem dL_law_630 : decode cL_law 630 = .ok (.iload_n 3, 1) := by decide +kernel
theorem dL_law_631 : decode cL_law 631 = .ok (.iconst 1, 1) := by decide +kernel
theorem dL_law_632 : decode cL_law 632 = .ok (.iadd, 1) := by decide +kernel
theorem dL_law_633 : decode cL_law 633 = .ok (.iaload, 1) := by decide +kernel
theorem dL_law_634 : decode cL_law 634 = .ok (.aload_n 0, 1) := by decide +kernel
theorem dL_law_635 : decode cL_law 635 = .ok (.iload_n 3, 1) := by decide +kernel
theorem dL_law_636 : decode cL_law 636 = .ok (.iconst 2, 1) := by decide +kernel
theorem dL_law_637 : decode cL_law 637 = .ok (.iadd, 1) := by decide +kernel
theorem dL_law_638 : decode cL_law 638 = .ok (.iaload, 1) := by decide +kernel
theorem dL_law_639 : decode cL_law 639 = .ok (.invokevirtual 68, 3) := by decide +kernel
theorem dL_law_642 : decode cL_law 642 = .ok (.if_icmp .eq 699, 3) := by decide +kernel
theorem dL_law_645 : decode cL_law 645 = .ok (.iconst 0, 1) := by decide +kernel
theorem dL_law_646 : decode cL_law 646 = .ok (.ireturn, 1) := by decide +kernel
theorem dL_law_647 : decode cL_law 647 = .ok (.aload_n 1, 1) := by decide +kernel
theorem dL_law_648 : decode cL_law 648 = .ok (.aload_n 0, 1) := by decide +kernel
theorem dL_law_649 : decode cL_law 649 = .ok (.iload_n 3, 1) := by decide +kernel
theorem dL_law_650 : decode cL_law 650 = .ok (.iconst 1, 1) := by decide +kernel
theorem dL_law_651 : decode cL_law 651 = .ok (.iadd, 1) := by decide +kernel
theorem dL_law_652 : decode cL_law 652 = .ok (.iaload, 1) := by decide +kernel
theorem dL_law_653 : decode cL_law 653 = .ok (.aload_n 0, 1) := by decide +kernel
theorem dL_law_654 : decode cL_law 654 = .ok (.iload_n 3, 1) := by decide +kernel
theorem dL_law_655 : decode cL_law 655 = .ok (.iconst 2, 1) := by decide +kernel
theorem dL_law_656 : decode cL_law 656 = .ok (.iadd, 1) := by decide +kernel
theorem dL_law_657 : decode cL_law 657 = .ok (.iaload, 1) := by decide +kernel
theorem dL_law_658 : decode cL_law 658 = .ok (.invokevirtual 69, 3) := by decide +kernel
theorem dL_law_661 : decode cL_law 661 = .ok (.aload_n 2, 1) := by decide +kernel
theorem dL_law_662 : decode cL_law 662 = .ok (.aload_n 0, 1) := by decide +kernel
theorem dL_law_663 : decode cL_law 663 = .ok (.iload_n 3, 1) := by decide +kernel
theorem dL_law_664 : decode cL_law 664 = .ok (.iconst 1, 1) := by decide +kernel
theorem dL_law_665 : decode cL_law 665 = .ok (.iadd, 1) := by decide +kernel
theorem dL_law_666 : decode cL_law 666 = .ok (.iaload, 1) := by decide +kernel
theorem dL_law_667 : decode cL_law 667 = .ok (.aload_n 0, 1) := by decide +kernel
theorem dL_law_668 : decode cL_law 668 = .ok (.iload_n 3, 1) := by decide +kernel
theorem dL_law_669 : decode cL_law 669 = .ok (.iconst 2, 1) := by decide +kernel
theorem dL_law_670 : decode cL_law 670 = .ok (.iadd, 1) := by decide +kernel
theorem dL_law_671 : decode cL_law 671 = .ok (.iaload, 1) := by decide +kernel
theorem dL_law_672 : decode cL_law 672 = .ok (.invokevirtual 72, 3) := by decide +kernel
theorem dL_law_675 : decode cL_law 675 = .ok (.if_icmp .eq 666, 3) := by decide +kernel
theorem dL_law_678 : decode cL_law 678 = .ok (.iconst 0, 1) := by decide +kernel
theorem dL_law_679 : decode cL_law 679 = .ok (.ireturn, 1) := by decide +kernel
theorem dL_law_680 : decode cL_law 680 = .ok (.aload_n 1, 1) := by decide +kernel
theorem dL_law_681 : decode cL_law 681 = .ok (.aload_n 0, 1) := by decide +kernel
theorem dL_law_682 : decode cL_law 682 = .ok (.iload_n 3, 1) := by decide +kernel
theorem dL_law_683 : decode cL_law 683 = .ok (.iconst 1, 1) := by decide +kernel
theorem dL_law_684 : decode cL_law 684 = .ok (.iadd, 1) := by decide +kernel
theorem dL_law_685 : decode cL_law 685 = .ok (.iaload, 1) := by decide +kernel
theorem dL_law_686 : decode cL_law 686 = .ok (.invokevirtual 73, 3) := by decide +kernel
theorem dL_law_689 : decode cL_law 689 = .ok (.aload_n 2, 1) := by decide +kernel
theorem dL_law_690 : decode cL_law 690 = .ok (.aload_n 0, 1) := by decide +kernel
theorem dL_law_691 : decode cL_law 691 = .ok (.iload_n 3, 1) := by decide +kernel
theorem dL_law_692 : decode cL_law 692 = .ok (.iconst 1, 1) := by decide +kernel
theorem dL_law_693 : decode cL_law 693 = .ok (.iadd, 1) := by decide +kernel
theorem dL_law_694 : decode cL_law 694 = .ok (.iaload, 1) := by decide +kernel
theorem dL_law_695 : decode cL_law 695 = .ok (.invokevirtual 76, 3) := by decide +kernel
theorem dL_law_698 : decode cL_law 698 = .ok (.if_icmp .eq 643, 3) := by decide +kernel
theorem dL_law_701 : decode cL_law 701 = .ok (.iconst 0, 1) := by decide +kernel
theorem dL_law_702 : decode cL_law 702 = .ok (.ireturn, 1) := by decide +kernel
theorem dL_law_703 : decode cL_law 703 = .ok (.aload_n 1, 1) := by decide +kernel
theorem dL_law_704 : decode cL_law 704 = .ok (.aload_n 0, 1) := by decide +kernel
theorem dL_law_705 : decode cL_law 705 = .ok (.iload_n 3, 1) := by decide +kernel
theorem dL_law_706 : decode cL_law 706 = .ok (.iconst 1, 1) := by decide +kernel
theorem dL_law_707 : decode cL_law 707 = .ok (.iadd, 1) := by decide +kernel
theorem dL_law_708 : decode cL_law 708 = .ok (.iaload, 1) := by decide +kernel
theorem dL_law_709 : decode cL_law 709 = .ok (.invokevirtual 77, 3) := by decide +kernel
theorem dL_law_712 : decode cL_law 712 = .ok (.aload_n 2, 1) := by decide +kernel
theorem dL_law_713 : decode cL_law 713 = .ok (.aload_n 0, 1) := by decide +kernel
theorem dL_law_714 : decode cL_law 714 = .ok (.iload_n 3, 1) := by decide +kernel
theorem dL_law_715 : decode cL_law 715 = .ok (.iconst 1, 1) := by decide +kernel
theorem dL_law_716 : decode cL_law 716 = .ok (.iadd, 1) := by decide +kernel
theorem dL_law_717 : decode cL_law 717 = .ok (.iaload, 1) := by decide +kernel
theorem dL_law_718 : decode cL_law 718 = .ok (.invokevirtual 80, 3) := by decide +kernel
theorem dL_law_721 : decode cL_law 721 = .ok (.if_icmp .eq 620, 3) := by decide +kernel
theorem dL_law_724 : decode cL_law 724 = .ok (.iconst 0, 1) := by decide +kernel
theorem dL_law_725 : decode cL_law 725 = .ok (.ireturn, 1) := by decide +kernel
theorem dL_law_726 : decode cL_law 726 = .ok (.aload_n 1, 1) := by decide +kernel
theorem dL_law_727 : decode cL_law 727 = .ok (.aload_n 0, 1) := by decide +kernel
theorem dL_law_728 : decode cL_law 728 = .ok (.iload_n 3, 1) := by decide +kernel
theorem dL_law_729 : decode cL_law 729 = .ok (.iconst 1, 1) := by decide +kernel
theorem dL_law_730 : decode cL_law 730 = .ok (.iadd, 1) := by decide +kernel
theorem dL_law_731 : decode cL_law 731 = .ok (.iaload, 1) := by decide +kernel
theorem dL_law_732 : decode cL_law 732 = .ok (.invokevirtual 81, 3) := by decide +kernel
theorem dL_law_735 : decode cL_law 735 = .ok (.aload_n 2, 1) := by decide +kernel
theorem dL_law_736 : decode cL_law 736 = .ok (.aload_n 0, 1) := by decide +kernel
theorem dL_law_737 : decode cL_law 737 = .ok (.iload_n 3, 1) := by decide +kernel
theorem dL_law_738 : decode cL_law 738 = .ok (.iconst 1, 1) := by decide +kernel
theorem dL_law_739 : decode cL_law 739 = .ok (.iadd, 1) := by decide +kernel
theorem dL_law_740 : decode cL_law 740 = .ok (.iaload, 1) := by decide +kernel
theorem dL_law_741 : decode cL_law 741 = .ok (.invokevirtual 84, 3) := by decide +kernel
theorem dL_law_744 : decode cL_law 744 = .ok (.if_icmp .eq 597, 3) := by decide +kernel
theorem dL_law_747 : decode cL_law 747 = .ok (.iconst 0, 1) := by decide +kernel
theorem dL_law_748 : decode cL_law 748 = .ok (.ireturn, 1) := by decide +kernel
theorem dL_law_749 : decode cL_law 749 = .ok (.aload_n 1, 1) := by decide +kernel
theorem dL_law_750 : decode cL_law 750 = .ok (.aload_n 0, 1) := by decide +kernel
theorem dL_law_751 : decode cL_law 751 = .ok (.iload_n 3, 1) := by decide +kernel
theorem dL_law_752 : decode cL_law 752 = .ok (.iconst 1, 1) := by decide +kernel
theorem dL_law_753 : decode cL_law 753 = .ok (.iadd, 1) := by decide +kernel
theorem dL_law_754 : decode cL_law 754 = .ok (.iaload, 1) := by decide +kernel
theorem dL_law_755 : decode cL_law 755 = .ok (.invokevirtual 85, 3) := by decide +kernel
theorem dL_law_758 : decode cL_law 758 = .ok (.aload_n 2, 1) := by decide +kernel
theorem dL_law_759 : decode cL_law 759 = .ok (.aload_n 0, 1) := by decide +kernel
theorem dL_law_760 : decode cL_law 760 = .ok (.iload_n 3, 1) := by decide +kernel
theorem dL_law_761 : decode cL_law 761 = .ok (.iconst 1, 1) := by decide +kernel
theorem dL_law_762 : decode cL_law 762 = .ok (.iadd, 1) := by decide +kernel
theorem dL_law_763 : decode cL_law 763 = .ok (.iaload, 1) := by decide +kernel
theorem dL_law_764 : decode cL_law 764 = .ok (.invokevirtual 88, 3) := by decide +kernel
theorem dL_law_767 : decode cL_law 767 = .ok (.if_icmp .eq 574, 3) := by decide +kernel
theorem dL_law_770 : decode cL_law 770 = .ok (.iconst 0, 1) := by decide +kernel
theorem dL_law_771 : decode cL_law 771 = .ok (.ireturn, 1) := by decide +kernel
theorem dL_law_772 : decode cL_law 772 = .ok (.aload_n 1, 1) := by decide +kernel
theorem dL_law_773 : decode cL_law 773 = .ok (.aload_n 0, 1) := by decide +kernel
theorem dL_law_774 : decode cL_law 774 = .ok (.iload_n 3, 1) := by decide +kernel
theorem dL_law_775 : decode cL_law 775 = .ok (.iconst 1, 1) := by decide +kernel
theorem dL_law_776 : decode cL_law 776 = .ok (.iadd, 1) := by decide +kernel
theorem dL_law_777 : decode cL_law 777 = .ok (.iaload, 1) := by decide +kernel
theorem dL_law_778 : decode cL_law 778 = .ok (.invokevirtual 89, 3) := by decide +kernel
theorem dL_law_781 : decode cL_law 781 = .ok (.aload_n 2, 1) := by decide +kernel
theorem dL_law_782 : decode cL_law 782 = .ok (.aload_n 0, 1) := by decide +kernel
theorem dL_law_783 : decode cL_law 783 = .ok (.iload_n 3, 1) := by decide +kernel
theorem dL_law_784 : decode cL_law 784 = .ok (.iconst 1, 1) := by decide +kernel
theorem dL_law_785 : decode cL_law 785 = .ok (.iadd, 1) := by decide +kernel
theorem dL_law_786 : decode cL_law 786 = .ok (.iaload, 1) := by decide +kernel
theorem dL_law_787 : decode cL_law 787 = .ok (.invokevirtual 92, 3) := by decide +kernel
theorem dL_law_790 : decode cL_law 790 = .ok (.if_icmp .eq 551, 3) := by decide +kernel
theorem dL_law_793 : decode cL_law 793 = .ok (.iconst 0, 1) := by decide +kernel
theorem dL_law_794 : decode cL_law 794 = .ok (.ireturn, 1) := by decide +kernel
theorem dL_law_795 : decode cL_law 795 = .ok (.aload_n 1, 1) := by decide +kernel
theorem dL_law_796 : decode cL_law 796 = .ok (.aload_n 0, 1) := by decide +kernel
theorem dL_law_797 : decode cL_law 797 = .ok (.iload_n 3, 1) := by decide +kernel
theorem dL_law_798 : decode cL_law 798 = .ok (.iconst 1, 1) := by decide +kernel
theorem dL_law_799 : decode cL_law 799 = .ok (.iadd, 1) := by decide +kernel
theorem dL_law_800 : decode cL_law 800 = .ok (.iaload, 1) := by decide +kernel
theorem dL_law_801 : decode cL_law 801 = .ok (.aload_n 0, 1) := by decide +kernel
theorem dL_law_802 : decode cL_law 802 = .ok (.iload_n 3, 1) := by decide +kernel
theorem dL_law_803 : decode cL_law 803 = .ok (.iconst 2, 1) := by decide +kernel
theorem dL_law_804 : decode cL_law 804 = .ok (.iadd, 1) := by decide +kernel
theorem dL_law_805 : decode cL_law 805 = .ok (.iaload, 1) := by decide +kernel
theorem dL_law_806 : decode cL_law 806 = .ok (.invokevirtual 93, 3) := by decide +kernel
theorem dL_law_809 : decode cL_law 809 = .ok (.aload_n 2, 1) := by decide +kernel
theorem dL_law_810 : decode cL_law 810 = .ok (.aload_n 0, 1) := by decide +kernel
theorem dL_law_811 : decode cL_law 811 = .ok (.iload_n 3, 1) := by decide +kernel
theorem dL_law_812 : decode cL_law 812 = .ok (.iconst 1, 1) := by decide +kernel
theorem dL_law_813 : decode cL_law 813 = .ok (.iadd, 1) := by decide +kernel
theorem dL_law_814 : decode cL_law 814 = .ok (.iaload, 1) := by decide +kernel
theorem dL_law_815 : decode cL_law 815 = .ok (.aload_n 0, 1) := by decide +kernel
theorem dL_law_816 : decode cL_law 816 = .ok (.iload_n 3, 1) := by decide +kernel
theorem dL_law_817 : decode cL_law 817 = .ok (.iconst 2, 1) := by decide +kernel
theorem dL_law_818 : decode cL_law 818 = .ok (.iadd, 1) := by decide +kernel
theorem dL_law_819 : decode cL_law 819 = .ok (.iaload, 1) := by decide +kernel
theorem dL_law_820 : decode cL_law 820 = .ok (.invokevirtual 96, 3) := by decide +kernel
theorem dL_law_823 : decode cL_law 823 = .ok (.if_icmp .eq 518, 3) := by decide +kernel
theorem dL_law_826 : decode cL_law 826 = .ok (.iconst 0, 1) := by decide +kernel
theorem dL_law_827 : decode cL_law 827 = .ok (.ireturn, 1) := by decide +kernel
theorem dL_law_828 : decode cL_law 828 = .ok (.aload_n 1, 1) := by decide +kernel
theorem dL_law_829 : decode cL_law 829 = .ok (.aload_n 0, 1) := by decide +kernel
theorem dL_law_830 : decode cL_law 830 = .ok (.iload_n 3, 1) := by decide +kernel
theorem dL_law_831 : decode cL_law 831 = .ok (.iconst 1, 1) := by decide +kernel
theorem dL_law_832 : decode cL_law 832 = .ok (.iadd, 1) := by decide +kernel
theorem dL_law_833 : decode cL_law 833 = .ok (.iaload, 1) := by decide +kernel
theorem dL_law_834 : decode cL_law 834 = .ok (.invokevirtual 97, 3) := by decide +kernel
theorem dL_law_837 : decode cL_law 837 = .ok (.aload_n 2, 1) := by decide +kernel
theorem dL_law_838 : decode cL_law 838 = .ok (.aload_n 0, 1) := by decide +kernel
theorem dL_law_839 : decode cL_law 839 = .ok (.iload_n 3, 1) := by decide +kernel
theorem dL_law_840 : decode cL_law 840 = .ok (.iconst 1, 1) := by decide +kernel
theorem dL_law_841 : decode cL_law 841 = .ok (.iadd, 1) := by decide +kernel
theorem dL_law_842 : decode cL_law 842 = .ok (.iaload, 1) := by decide +kernel
theorem dL_law_843 : decode cL_law 843 = .ok (.invokevirtual 100, 3) := by decide +kernel
theorem dL_law_846 : decode cL_law 846 = .ok (.if_icmp .eq 495, 3) := by decide +kernel
theorem dL_law_849 : decode cL_law 849 = .ok (.iconst 0, 1) := by decide +kernel
theorem dL_law_850 : decode cL_law 850 = .ok (.ireturn, 1) := by decide +kernel
theorem dL_law_851 : decode cL_law 851 = .ok (.aload_n 1, 1) := by decide +kernel
theorem dL_law_852 : decode cL_law 852 = .ok (.aload_n 0, 1) := by decide +kernel
theorem dL_law_853 : decode cL_law 853 = .ok (.iload_n 3, 1) := by decide +kernel
theorem dL_law_854 : decode cL_law 854 = .ok (.iconst 1, 1) := by decide +kernel
theorem dL_law_855 : decode cL_law 855 = .ok (.iadd, 1) := by decide +kernel
theorem dL_law_856 : decode cL_law 856 = .ok (.iaload, 1) := by decide +kernel
theorem dL_law_857 : decode cL_law 857 = .ok (.aload_n 0, 1) := by decide +kernel
theorem dL_law_858 : decode cL_law 858 = .ok (.iload_n 3, 1) := by decide +kernel
theorem dL_law_859 : decode cL_law 859 = .ok (.iconst 2, 1) := by decide +kernel
theorem dL_law_860 : decode cL_law 860 = .ok (.iadd, 1) := by decide +kernel
theorem dL_law_861 : decode cL_law 861 = .ok (.iaload, 1) := by decide +kernel
theorem dL_law_862 : decode cL_law 862 = .ok (.invokevirtual 101, 3) := by decide +kernel
theorem dL_law_865 : decode cL_law 865 = .ok (.aload_n 2, 1) := by decide +kernel
theorem dL_law_866 : decode cL_law 866 = .ok (.aload_n 0, 1) := by decide +kernel
theorem dL_law_867 : decode cL_law 867 = .ok (.iload_n 3, 1) := by decide +kernel
theorem dL_law_868 : decode cL_law 868 = .ok (.iconst 1, 1) := by decide +kernel
theorem dL_law_869 : decode cL_law 869 = .ok (.iadd, 1) := by decide +kernel
theorem dL_law_870 : decode cL_law 870 = .ok (.iaload, 1) := by decide +kernel
theorem dL_law_871 : decode cL_law 871 = .ok (.aload_n 0, 1) := by decide +kernel
theorem dL_law_872 : decode cL_law 872 = .ok (.iload_n 3, 1) := by decide +kernel
theorem dL_law_873 : decode cL_law 873 = .ok (.iconst 2, 1) := by decide +kernel
theorem dL_law_874 : decode cL_law 874 = .ok (.iadd, 1) := by decide +kernel
theorem dL_law_875 : decode cL_law 875 = .ok (.iaload, 1) := by decide +kernel
theorem dL_law_876 : decode cL_law 876 = .ok (.invokevirtual 104, 3) := by decide +kernel
theorem dL_law_879 : decode cL_law 879 = .ok (.if_icmp .eq 462, 3) := by decide +kernel
theorem dL_law_882 : decode cL_law 882 = .ok (.iconst 0, 1) := by decide +kernel
theorem dL_law_883 : decode cL_law 883 = .ok (.ireturn, 1) := by decide +kernel
theorem dL_law_884 : decode cL_law 884 = .ok (.aload_n 1, 1) := by decide +kernel
theorem dL_law_885 : decode cL_law 885 = .ok (.aload_n 0, 1) := by decide +kernel
theorem dL_law_886 : decode cL_law 886 = .ok (.iload_n 3, 1) := by decide +kernel
theorem dL_law_887 : decode cL_law 887 = .ok (.iconst 1, 1) := by decide +kernel
theorem dL_law_888 : decode cL_law 888 = .ok (.iadd, 1) := by decide +kernel
theorem dL_law_889 : decode cL_law 889 = .ok (.iaload, 1) := by decide +kernel
theorem dL_law_890 : decode cL_law 890 = .ok (.invokevirtual 105, 3) := by decide +kernel
theorem dL_law_893 : decode cL_law 893 = .ok (.aload_n 2, 1) := by decide +kernel
theorem dL_law_894 : decode cL_law 894 = .ok (.aload_n 0, 1) := by decide +kernel
theorem dL_law_895 : decode cL_law 895 = .ok (.iload_n 3, 1) := by decide +kernel
theorem dL_law_896 : decode cL_law 896 = .ok (.iconst 1, 1) := by decide +kernel
theorem dL_law_897 : decode cL_law 897 = .ok (.iadd, 1) := by decide +kernel
theorem dL_law_898 : decode cL_law 898 = .ok (.iaload, 1) := by decide +kernel
theorem dL_law_899 : decode cL_law 899 = .ok (.invokevirtual 108, 3) := by decide +kernel
theorem dL_law_902 : decode cL_law 902 = .ok (.if_icmp .eq 439, 3) := by decide +kernel
theorem dL_law_905 : decode cL_law 905 = .ok (.iconst 0, 1) := by decide +kernel
theorem dL_law_906 : decode cL_law 906 = .ok (.ireturn, 1) := by decide +kernel
theorem dL_law_907 : decode cL_law 907 = .ok (.aload_n 1, 1) := by decide +kernel
theorem dL_law_908 : decode cL_law 908 = .ok (.aload_n 0, 1) := by decide +kernel
theorem dL_law_909 : decode cL_law 909 = .ok (.iload_n 3, 1) := by decide +kernel
theorem dL_law_910 : decode cL_law 910 = .ok (.iconst 1, 1) := by decide +kernel
theorem dL_law_911 : decode cL_law 911 = .ok (.iadd, 1) := by decide +kernel
theorem dL_law_912 : decode cL_law 912 = .ok (.iaload, 1) := by decide +kernel
theorem dL_law_913 : decode cL_law 913 = .ok (.invokevirtual 109, 3) := by decide +kernel
theorem dL_law_916 : decode cL_law 916 = .ok (.aload_n 2, 1) := by decide +kernel
theorem dL_law_917 : decode cL_law 917 = .ok (.aload_n 0, 1) := by decide +kernel
theorem dL_law_918 : decode cL_law 918 = .ok (.iload_n 3, 1) := by decide +kernel
theorem dL_law_919 : decode cL_law 919 = .ok (.iconst 1, 1) := by decide +kernel
theorem dL_law_920 : decode cL_law 920 = .ok (.iadd, 1) := by decide +kernel
theorem dL_law_921 : decode cL_law 921 = .ok (.iaload, 1) := by decide +kernel
theorem dL_law_922 : decode cL_law 922 = .ok (.invokevirtual 112, 3) := by decide +kernel
theorem dL_law_925 : decode cL_law 925 = .ok (.if_icmp .eq 416, 3) := by decide +kernel
theorem dL_law_928 : decode cL_law 928 = .ok (.iconst 0, 1) := by decide +kernel
theorem dL_law_929 : decode cL_law 929 = .ok (.ireturn, 1) := by decide +kernel
theorem dL_law_930 : decode cL_law 930 = .ok (.aload_n 1, 1) := by decide +kernel
theorem dL_law_931 : decode cL_law 931 = .ok (.aload_n 0, 1) := by decide +kernel
theorem dL_law_932 : decode cL_law 932 = .ok (.iload_n 3, 1) := by decide +kernel
theorem dL_law_933 : decode cL_law 933 = .ok (.iconst 1, 1) := by decide +kernel
theorem dL_law_934 : decode cL_law 934 = .ok (.iadd, 1) := by decide +kernel
theorem dL_law_935 : decode cL_law 935 = .ok (.iaload, 1) := by decide +kernel
theorem dL_law_936 : decode cL_law 936 = .ok (.invokevirtual 113, 3) := by decide +kernel
theorem dL_law_939 : decode cL_law 939 = .ok (.aload_n 2, 1) := by decide +kernel
theorem dL_law_940 : decode cL_law 940 = .ok (.aload_n 0, 1) := by decide +kernel
theorem dL_law_941 : decode cL_law 941 = .ok (.iload_n 3, 1) := by decide +kernel
theorem dL_law_942 : decode cL_law 942 = .ok (.iconst 1, 1) := by decide +kernel
theorem dL_law_943 : decode cL_law 943 = .ok (.iadd, 1) := by decide +kernel
theorem dL_law_944 : decode cL_law 944 = .ok (.iaload, 1) := by decide +kernel
theorem dL_law_945 : decode cL_law 945 = .ok (.invokevirtual 116, 3) := by decide +kernel
theorem dL_law_948 : decode cL_law 948 = .ok (.if_icmp .eq 393, 3) := by decide +kernel
theorem dL_law_951 : decode cL_law 951 = .ok (.iconst 0, 1) := by decide +kernel
theorem dL_law_952 : decode cL_law 952 = .ok (.ireturn, 1) := by decide +kernel
theorem dL_law_953 : decode cL_law 953 = .ok (.aload_n 1, 1) := by decide +kernel
theorem dL_law_954 : decode cL_law 954 = .ok (.aload_n 0, 1) := by decide +kernel
theorem dL_law_955 : decode cL_law 955 = .ok (.iload_n 3, 1) := by decide +kernel
theorem dL_law_956 : decode cL_law 956 = .ok (.iconst 1, 1) := by decide +kernel
theorem dL_law_957 : decode cL_law 957 = .ok (.iadd, 1) := by decide +kernel
theorem dL_law_958 : decode cL_law 958 = .ok (.iaload, 1) := by decide +kernel
theorem dL_law_959 : decode cL_law 959 = .ok (.aload_n 0, 1) := by decide +kernel
theorem dL_law_960 : decode cL_law 960 = .ok (.iload_n 3, 1) := by decide +kernel
theorem dL_law_961 : decode cL_law 961 = .ok (.iconst 2, 1) := by decide +kernel
theorem dL_law_962 : decode cL_law 962 = .ok (.iadd, 1) := by decide +kernel
theorem dL_law_963 : decode cL_law 963 = .ok (.iaload, 1) := by decide +kernel
theorem dL_law_964 : decode cL_law 964 = .ok (.invokevirtual 117, 3) := by decide +kernel
theorem dL_law_967 : decode cL_law 967 = .ok (.aload_n 2, 1) := by decide +kernel
theorem dL_law_968 : decode cL_law 968 = .ok (.aload_n 0, 1) := by decide +kernel
theorem dL_law_969 : decode cL_law 969 = .ok (.iload_n 3, 1) := by decide +kernel
theorem dL_law_970 : decode cL_law 970 = .ok (.iconst 1, 1) := by decide +kernel
theorem dL_law_971 : decode cL_law 971 = .ok (.iadd, 1) := by decide +kernel
theorem dL_law_972 : decode cL_law 972 = .ok (.iaload, 1) := by decide +kernel
theorem dL_law_973 : decode cL_law 973 = .ok (.aload_n 0, 1) := by decide +kernel
theorem dL_law_974 : decode cL_law 974 = .ok (.iload_n 3, 1) := by decide +kernel
theorem dL_law_975 : decode cL_law 975 = .ok (.iconst 2, 1) := by decide +kernel
theorem dL_law_976 : decode cL_law 976 = .ok (.iadd, 1) := by decide +kernel
theorem dL_law_977 : decode cL_law 977 = .ok (.iaload, 1) := by decide +kernel
theorem dL_law_978 : decode cL_law 978 = .ok (.invokevirtual 120, 3) := by decide +kernel
theorem dL_law_981 : decode cL_law 981 = .ok (.if_icmp .eq 360, 3) := by decide +kernel
theorem dL_law_984 : decode cL_law 984 = .ok (.iconst 0, 1) := by decide +kernel
theorem dL_law_985 : decode cL_law 985 = .ok (.ireturn, 1) := by decide +kernel
theorem dL_law_986 : decode cL_law 986 = .ok (.aload_n 1, 1) := by decide +kernel
theorem dL_law_987 : decode cL_law 987 = .ok (.aload_n 0, 1) := by decide +kernel
theorem dL_law_988 : decode cL_law 988 = .ok (.iload_n 3, 1) := by decide +kernel
theorem dL_law_989 : decode cL_law 989 = .ok (.iconst 1, 1) := by decide +kernel
theorem dL_law_990 : decode cL_law 990 = .ok (.iadd, 1) := by decide +kernel
theorem dL_law_991 : decode cL_law 991 = .ok (.iaload, 1) := by decide +kernel
theorem dL_law_992 : decode cL_law 992 = .ok (.aload_n 0, 1) := by decide +kernel
theorem dL_law_993 : decode cL_law 993 = .ok (.iload_n 3, 1) := by decide +kernel
theorem dL_law_994 : decode cL_law 994 = .ok (.iconst 2, 1) := by decide +kernel
theorem dL_law_995 : decode cL_law 995 = .ok (.iadd, 1) := by decide +kernel
theorem dL_law_996 : decode cL_law 996 = .ok (.iaload, 1) := by decide +kernel
theorem dL_law_997 : decode cL_law 997 = .ok (.invokevirtual 121, 3) := by decide +kernel
theorem dL_law_1000 : decode cL_law 1000 = .ok (.aload_n 2, 1) := by decide +kernel
theorem dL_law_1001 : decode cL_law 1001 = .ok (.aload_n 0, 1) := by decide +kernel
theorem dL_law_1002 : decode cL_law 1002 = .ok (.iload_n 3, 1) := by decide +kernel
theorem dL_law_1003 : decode cL_law 1003 = .ok (.iconst 1, 1) := by decide +kernel
theorem dL_law_1004 : decode cL_law 1004 = .ok (.iadd, 1) := by decide +kernel
theorem dL_law_1005 : decode cL_law 1005 = .ok (.iaload, 1) := by decide +kernel
theorem dL_law_1006 : decode cL_law 1006 = .ok (.aload_n 0, 1) := by decide +kernel
theorem dL_law_1007 : decode cL_law 1007 = .ok (.iload_n 3, 1) := by decide +kernel
theorem dL_law_1008 : decode cL_law 1008 = .ok (.iconst 2, 1) := by decide +kernel
theorem dL_law_1009 : decode cL_law 1009 = .ok (.iadd, 1) := by decide +kernel
theorem dL_law_1010 : decode cL_law 1010 = .ok (.iaload, 1) := by decide +kernel
theorem dL_law_1011 : decode cL_law 1011 = .ok (.invokevirtual 124, 3) := by decide +kernel
theorem dL_law_1014 : decode cL_law 1014 = .ok (.if_icmp .eq 327, 3) := by decide +kernel
theorem dL_law_1017 : decode cL_law 1017 = .ok (.iconst 0, 1) := by decide +kernel
theorem dL_law_1018 : decode cL_law 1018 = .ok (.ireturn, 1) := by decide +kernel
theorem dL_law_1019 : decode cL_law 1019 = .ok (.aload_n 1, 1) := by decide +kernel
theorem dL_law_1020 : decode cL_law 1020 = .ok (.aload_n 0, 1) := by decide +kernel
theorem dL_law_1021 : decode cL_law 1021 = .ok (.iload_n 3, 1) := by decide +kernel
theorem dL_law_1022 : decode cL_law 1022 = .ok (.iconst 1, 1) := by decide +kernel
theorem dL_law_1023 : decode cL_law 1023 = .ok (.iadd, 1) := by decide +kernel
theorem dL_law_1024 : decode cL_law 1024 = .ok (.iaload, 1) := by decide +kernel
theorem dL_law_1025 : decode cL_law 1025 = .ok (.aload_n 0, 1) := by decide +kernel
theorem dL_law_1026 : decode cL_law 1026 = .ok (.iload_n 3, 1) := by decide +kernel
theorem dL_law_1027 : decode cL_law 1027 = .ok (.iconst 2, 1) := by decide +kernel
theorem dL_law_1028 : decode cL_law 1028 = .ok (.iadd, 1) := by decide +kernel
theorem dL_law_1029 : decode cL_law 1029 = .ok (.iaload, 1) := by decide +kernel
theorem dL_law_1030 : decode cL_law 1030 = .ok (.invokevirtual 125, 3) := by decide +kernel
theorem dL_law_1033 : decode cL_law 1033 = .ok (.aload_n 2, 1) := by decide +kernel
theorem dL_law_1034 : decode cL_law 1034 = .ok (.aload_n 0, 1) := by decide +kernel
theorem dL_law_1035 : decode cL_law 1035 = .ok (.iload_n 3, 1) := by decide +kernel
theorem dL_law_1036 : decode cL_law 1036 = .ok (.iconst 1, 1) := by decide +kernel
theorem dL_law_1037 : decode cL_law 1037 = .ok (.iadd, 1) := by decide +kernel
theorem dL_law_1038 : decode cL_law 1038 = .ok (.iaload, 1) := by decide +kernel
theorem dL_law_1039 : decode cL_law 1039 = .ok (.aload_n 0, 1) := by decide +kernel
theorem dL_law_1040 : decode cL_law 1040 = .ok (.iload_n 3, 1) := by decide +kernel
theorem dL_law_1041 : decode cL_law 1041 = .ok (.iconst 2, 1) := by decide +kernel
theorem dL_law_1042 : decode cL_law 1042 = .ok (.iadd, 1) := by decide +kernel
theorem dL_law_1043 : decode cL_law 1043 = .ok (.iaload, 1) := by decide +kernel
theorem dL_law_1044 : decode cL_law 1044 = .ok (.invokevirtual 128, 3) := by decide +kernel
theorem dL_law_1047 : decode cL_law 1047 = .ok (.if_icmp .eq 294, 3) := by decide +kernel
theorem dL_law_1050 : decode cL_law 1050 = .ok (.iconst 0, 1) := by decide +kernel
theorem dL_law_1051 : decode cL_law 1051 = .ok (.ireturn, 1) := by decide +kernel
theorem dL_law_1052 : decode cL_law 1052 = .ok (.aload_n 1, 1) := by decide +kernel
theorem dL_law_1053 : decode cL_law 1053 = .ok (.aload_n 0, 1) := by decide +kernel
theorem dL_law_1054 : decode cL_law 1054 = .ok (.iload_n 3, 1) := by decide +kernel
theorem dL_law_1055 : decode cL_law 1055 = .ok (.iconst 1, 1) := by decide +kernel
theorem dL_law_1056 : decode cL_law 1056 = .ok (.iadd, 1) := by decide +kernel
theorem dL_law_1057 : decode cL_law 1057 = .ok (.iaload, 1) := by decide +kernel
theorem dL_law_1058 : decode cL_law 1058 = .ok (.invokevirtual 129, 3) := by decide +kernel
theorem dL_law_1061 : decode cL_law 1061 = .ok (.aload_n 2, 1) := by decide +kernel
theorem dL_law_1062 : decode cL_law 1062 = .ok (.aload_n 0, 1) := by decide +kernel
theorem dL_law_1063 : decode cL_law 1063 = .ok (.iload_n 3, 1) := by decide +kernel
theorem dL_law_1064 : decode cL_law 1064 = .ok (.iconst 1, 1) := by decide +kernel
theorem dL_law_1065 : decode cL_law 1065 = .ok (.iadd, 1) := by decide +kernel
theorem dL_law_1066 : decode cL_law 1066 = .ok (.iaload, 1) := by decide +kernel
theorem dL_law_1067 : decode cL_law 1067 = .ok (.invokevirtual 132, 3) := by decide +kernel
theorem dL_law_1070 : decode cL_law 1070 = .ok (.if_icmp .eq 271, 3) := by decide +kernel
theorem dL_law_1073 : decode cL_law 1073 = .ok (.iconst 0, 1) := by decide +kernel
theorem dL_law_1074 : decode cL_law 1074 = .ok (.ireturn, 1) := by decide +kernel
theorem dL_law_1075 : decode cL_law 1075 = .ok (.aload_n 1, 1) := by decide +kernel
theorem dL_law_1076 : decode cL_law 1076 = .ok (.aload_n 0, 1) := by decide +kernel
theorem dL_law_1077 : decode cL_law 1077 = .ok (.iload_n 3, 1) := by decide +kernel
theorem dL_law_1078 : decode cL_law 1078 = .ok (.iconst 1, 1) := by decide +kernel
theorem dL_law_1079 : decode cL_law 1079 = .ok (.iadd, 1) := by decide +kernel
theorem dL_law_1080 : decode cL_law 1080 = .ok (.iaload, 1) := by decide +kernel
theorem dL_law_1081 : decode cL_law 1081 = .ok (.invokevirtual 133, 3) := by decide +kernel
theorem dL_law_1084 : decode cL_law 1084 = .ok (.aload_n 2, 1) := by decide +kernel
theorem dL_law_1085 : decode cL_law 1085 = .ok (.aload_n 0, 1) := by decide +kernel
theorem dL_law_1086 : decode cL_law 1086 = .ok (.iload_n 3, 1) := by decide +kernel
theorem dL_law_1087 : decode cL_law 1087 = .ok (.iconst 1, 1) := by decide +kernel
theorem dL_law_1088 : decode cL_law 1088 = .ok (.iadd, 1) := by decide +kernel
theorem dL_law_1089 : decode cL_law 1089 = .ok (.iaload, 1) := by decide +kernel
theorem dL_law_1090 : decode cL_law 1090 = .ok (.invokevirtual 136, 3) := by decide +kernel
theorem dL_law_1093 : decode cL_law 1093 = .ok (.if_icmp .eq 248, 3) := by decide +kernel
theorem dL_law_1096 : decode cL_law 1096 = .ok (.iconst 0, 1) := by decide +kernel
theorem dL_law_1097 : decode cL_law 1097 = .ok (.ireturn, 1) := by decide +kernel
theorem dL_law_1098 : decode cL_law 1098 = .ok (.aload_n 1, 1) := by decide +kernel
theorem dL_law_1099 : decode cL_law 1099 = .ok (.aload_n 0, 1) := by decide +kernel
theorem dL_law_1100 : decode cL_law 1100 = .ok (.iload_n 3, 1) := by decide +kernel
theorem dL_law_1101 : decode cL_law 1101 = .ok (.iconst 1, 1) := by decide +kernel
theorem dL_law_1102 : decode cL_law 1102 = .ok (.iadd, 1) := by decide +kernel
theorem dL_law_1103 : decode cL_law 1103 = .ok (.iaload, 1) := by decide +kernel
theorem dL_law_1104 : decode cL_law 1104 = .ok (.aload_n 0, 1) := by decide +kernel
theorem dL_law_1105 : decode cL_law 1105 = .ok (.iload_n 3, 1) := by decide +kernel
theorem dL_law_1106 : decode cL_law 1106 = .ok (.iconst 2, 1) := by decide +kernel
theorem dL_law_1107 : decode cL_law 1107 = .ok (.iadd, 1) := by decide +kernel
theorem dL_law_1108 : decode cL_law 1108 = .ok (.iaload, 1) := by decide +kernel
theorem dL_law_1109 : decode cL_law 1109 = .ok (.aload_n 0, 1) := by decide +kernel
theorem dL_law_1110 : decode cL_law 1110 = .ok (.iload_n 3, 1) := by decide +kernel
theorem dL_law_1111 : decode cL_law 1111 = .ok (.iconst 3, 1) := by decide +kernel
theorem dL_law_1112 : decode cL_law 1112 = .ok (.iadd, 1) := by decide +kernel
theorem dL_law_1113 : decode cL_law 1113 = .ok (.iaload, 1) := by decide +kernel
theorem dL_law_1114 : decode cL_law 1114 = .ok (.aload_n 0, 1) := by decide +kernel
theorem dL_law_1115 : decode cL_law 1115 = .ok (.iload_n 3, 1) := by decide +kernel
theorem dL_law_1116 : decode cL_law 1116 = .ok (.iconst 4, 1) := by decide +kernel
theorem dL_law_1117 : decode cL_law 1117 = .ok (.iadd, 1) := by decide +kernel
theorem dL_law_1118 : decode cL_law 1118 = .ok (.iaload, 1) := by decide +kernel
theorem dL_law_1119 : decode cL_law 1119 = .ok (.invokevirtual 137, 3) := by decide +kernel
theorem dL_law_1122 : decode cL_law 1122 = .ok (.aload_n 2, 1) := by decide +kernel
theorem dL_law_1123 : decode cL_law 1123 = .ok (.aload_n 0, 1) := by decide +kernel
theorem dL_law_1124 : decode cL_law 1124 = .ok (.iload_n 3, 1) := by decide +kernel
theorem dL_law_1125 : decode cL_law 1125 = .ok (.iconst 1, 1) := by decide +kernel
theorem dL_law_1126 : decode cL_law 1126 = .ok (.iadd, 1) := by decide +kernel
theorem dL_law_1127 : decode cL_law 1127 = .ok (.iaload, 1) := by decide +kernel
theorem dL_law_1128 : decode cL_law 1128 = .ok (.aload_n 0, 1) := by decide +kernel
theorem dL_law_1129 : decode cL_law 1129 = .ok (.iload_n 3, 1) := by decide +kernel
theorem dL_law_1130 : decode cL_law 1130 = .ok (.iconst 2, 1) := by decide +kernel
theorem dL_law_1131 : decode cL_law 1131 = .ok (.iadd, 1) := by decide +kernel
theorem dL_law_1132 : decode cL_law 1132 = .ok (.iaload, 1) := by decide +kernel
theorem dL_law_1133 : decode cL_law 1133 = .ok (.aload_n 0, 1) := by decide +kernel
theorem dL_law_1134 : decode cL_law 1134 = .ok (.iload_n 3, 1) := by decide +kernel
theorem dL_law_1135 : decode cL_law 1135 = .ok (.iconst 3, 1) := by decide +kernel
theorem dL_law_1136 : decode cL_law 1136 = .ok (.iadd, 1) := by decide +kernel
theorem dL_law_1137 : decode cL_law 1137 = .ok (.iaload, 1) := by decide +kernel
theorem dL_law_1138 : decode cL_law 1138 = .ok (.aload_n 0, 1) := by decide +kernel
theorem dL_law_1139 : decode cL_law 1139 = .ok (.iload_n 3, 1) := by decide +kernel
theorem dL_law_1140 : decode cL_law 1140 = .ok (.iconst 4, 1) := by decide +kernel
theorem dL_law_1141 : decode cL_law 1141 = .ok (.iadd, 1) := by decide +kernel
theorem dL_law_1142 : decode cL_law 1142 = .ok (.iaload, 1) := by decide +kernel
theorem dL_law_1143 : decode cL_law 1143 = .ok (.invokevirtual 141, 3) := by decide +kernel
theorem dL_law_1146 : decode cL_law 1146 = .ok (.if_icmp .eq 195, 3) := by decide +kernel
theorem dL_law_1149 : decode cL_law 1149 = .ok (.iconst 0, 1) := by decide +kernel
theorem dL_law_1150 : decode cL_law 1150 = .ok (.ireturn, 1) := by decide +kernel
theorem dL_law_1151 : decode cL_law 1151 = .ok (.aload_n 1, 1) := by decide +kernel
theorem dL_law_1152 : decode cL_law 1152 = .ok (.aload_n 0, 1) := by decide +kernel
theorem dL_law_1153 : decode cL_law 1153 = .ok (.iload_n 3, 1) := by decide +kernel
theorem dL_law_1154 : decode cL_law 1154 = .ok (.iconst 1, 1) := by decide +kernel
theorem dL_law_1155 : decode cL_law 1155 = .ok (.iadd, 1) := by decide +kernel
theorem dL_law_1156 : decode cL_law 1156 = .ok (.iaload, 1) := by decide +kernel
theorem dL_law_1157 : decode cL_law 1157 = .ok (.aload_n 0, 1) := by decide +kernel
theorem dL_law_1158 : decode cL_law 1158 = .ok (.iload_n 3, 1) := by decide +kernel
theorem dL_law_1159 : decode cL_law 1159 = .ok (.iconst 2, 1) := by decide +kernel
theorem dL_law_1160 : decode cL_law 1160 = .ok (.iadd, 1) := by decide +kernel
theorem dL_law_1161 : decode cL_law 1161 = .ok (.iaload, 1) := by decide +kernel
theorem dL_law_1162 : decode cL_law 1162 = .ok (.aload_n 0, 1) := by decide +kernel
theorem dL_law_1163 : decode cL_law 1163 = .ok (.iload_n 3, 1) := by decide +kernel
theorem dL_law_1164 : decode cL_law 1164 = .ok (.iconst 3, 1) := by decide +kernel
theorem dL_law_1165 : decode cL_law 1165 = .ok (.iadd, 1) := by decide +kernel
theorem dL_law_1166 : decode cL_law 1166 = .ok (.iaload, 1) := by decide +kernel
theorem dL_law_1167 : decode cL_law 1167 = .ok (.invokevirtual 142, 3) := by decide +kernel
theorem dL_law_1170 : decode cL_law 1170 = .ok (.aload_n 2, 1) := by decide +kernel
theorem dL_law_1171 : decode cL_law 1171 = .ok (.aload_n 0, 1) := by decide +kernel
theorem dL_law_1172 : decode cL_law 1172 = .ok (.iload_n 3, 1) := by decide +kernel
theorem dL_law_1173 : decode cL_law 1173 = .ok (.iconst 1, 1) := by decide +kernel
theorem dL_law_1174 : decode cL_law 1174 = .ok (.iadd, 1) := by decide +kernel
theorem dL_law_1175 : decode cL_law 1175 = .ok (.iaload, 1) := by decide +kernel
theorem dL_law_1176 : decode cL_law 1176 = .ok (.aload_n 0, 1) := by decide +kernel
theorem dL_law_1177 : decode cL_law 1177 = .ok (.iload_n 3, 1) := by decide +kernel
theorem dL_law_1178 : decode cL_law 1178 = .ok (.iconst 2, 1) := by decide +kernel
theorem dL_law_1179 : decode cL_law 1179 = .ok (.iadd, 1) := by decide +kernel
theorem dL_law_1180 : decode cL_law 1180 = .ok (.iaload, 1) := by decide +kernel
theorem dL_law_1181 : decode cL_law 1181 = .ok (.aload_n 0, 1) := by decide +kernel
theorem dL_law_1182 : decode cL_law 1182 = .ok (.iload_n 3, 1) := by decide +kernel
theorem dL_law_1183 : decode cL_law 1183 = .ok (.iconst 3, 1) := by decide +kernel
theorem dL_law_1184 : decode cL_law 1184 = .ok (.iadd, 1) := by decide +kernel
theorem dL_law_1185 : decode cL_law 1185 = .ok (.iaload, 1) := by decide +kernel
theorem dL_law_1186 : decode cL_law 1186 = .ok (.invokevirtual 145, 3) := by decide +kernel
theorem dL_law_1189 : decode cL_law 1189 = .ok (.if_icmp .eq 152, 3) := by decide +kernel
theorem dL_law_1192 : decode cL_law 1192 = .ok (.iconst 0, 1) := by decide +kernel
theorem dL_law_1193 : decode cL_law 1193 = .ok (.ireturn, 1) := by decide +kernel
theorem dL_law_1194 : decode cL_law 1194 = .ok (.aload_n 1, 1) := by decide +kernel
theorem dL_law_1195 : decode cL_law 1195 = .ok (.aload_n 0, 1) := by decide +kernel
theorem dL_law_1196 : decode cL_law 1196 = .ok (.iload_n 3, 1) := by decide +kernel
theorem dL_law_1197 : decode cL_law 1197 = .ok (.iconst 1, 1) := by decide +kernel
theorem dL_law_1198 : decode cL_law 1198 = .ok (.iadd, 1) := by decide +kernel
theorem dL_law_1199 : decode cL_law 1199 = .ok (.iaload, 1) := by decide +kernel
theorem dL_law_1200 : decode cL_law 1200 = .ok (.aload_n 0, 1) := by decide +kernel
theorem dL_law_1201 : decode cL_law 1201 = .ok (.iload_n 3, 1) := by decide +kernel
theorem dL_law_1202 : decode cL_law 1202 = .ok (.iconst 2, 1) := by decide +kernel
theorem dL_law_1203 : decode cL_law 1203 = .ok (.iadd, 1) := by decide +kernel
theorem dL_law_1204 : decode cL_law 1204 = .ok (.iaload, 1) := by decide +kernel
theorem dL_law_1205 : decode cL_law 1205 = .ok (.invokevirtual 146, 3) := by decide +kernel
theorem dL_law_1208 : decode cL_law 1208 = .ok (.aload_n 2, 1) := by decide +kernel
theorem dL_law_1209 : decode cL_law 1209 = .ok (.aload_n 0, 1) := by decide +kernel
theorem dL_law_1210 : decode cL_law 1210 = .ok (.iload_n 3, 1) := by decide +kernel
theorem dL_law_1211 : decode cL_law 1211 = .ok (.iconst 1, 1) := by decide +kernel
theorem dL_law_1212 : decode cL_law 1212 = .ok (.iadd, 1) := by decide +kernel
theorem dL_law_1213 : decode cL_law 1213 = .ok (.iaload, 1) := by decide +kernel
theorem dL_law_1214 : decode cL_law 1214 = .ok (.aload_n 0, 1) := by decide +kernel
theorem dL_law_1215 : decode cL_law 1215 = .ok (.iload_n 3, 1) := by decide +kernel
theorem dL_law_1216 : decode cL_law 1216 = .ok (.iconst 2, 1) := by decide +kernel
theorem dL_law_1217 : decode cL_law 1217 = .ok (.iadd, 1) := by decide +kernel
theorem dL_law_1218 : decode cL_law 1218 = .ok (.iaload, 1) := by decide +kernel
theorem dL_law_1219 : decode cL_law 1219 = .ok (.invokevirtual 149, 3) := by decide +kernel
theorem dL_law_1222 : decode cL_law 1222 = .ok (.if_icmp .eq 119, 3) := by decide +kernel
theorem dL_law_1225 : decode cL_law 1225 = .ok (.iconst 0, 1) := by decide +kernel
theorem dL_law_1226 : decode cL_law 1226 = .ok (.ireturn, 1) := by decide +kernel
theorem dL_law_1227 : decode cL_law 1227 = .ok (.aload_n 1, 1) := by decide +kernel
theorem dL_law_1228 : decode cL_law 1228 = .ok (.invokevirtual 150, 3) := by decide +kernel
theorem dL_law_1231 : decode cL_law 1231 = .ok (.aload_n 2, 1) := by decide +kernel
theorem dL_law_1232 : decode cL_law 1232 = .ok (.invokevirtual 154, 3) := by decide +kernel
theorem dL_law_1235 : decode cL_law 1235 = .ok (.if_icmp .eq 106, 3) := by decide +kernel
theorem dL_law_1238 : decode cL_law 1238 = .ok (.iconst 0, 1) := by decide +kernel
theorem dL_law_1239 : decode cL_law 1239 = .ok (.ireturn, 1) := by decide +kernel
theorem dL_law_1240 : decode cL_law 1240 = .ok (.aload_n 1, 1) := by decide +kernel
theorem dL_law_1241 : decode cL_law 1241 = .ok (.invokevirtual 155, 3) := by decide +kernel
theorem dL_law_1244 : decode cL_law 1244 = .ok (.aload_n 2, 1) := by decide +kernel
theorem dL_law_1245 : decode cL_law 1245 = .ok (.invokevirtual 159, 3) := by decide +kernel
theorem dL_law_1248 : decode cL_law 1248 = .ok (.lcmp, 1) := by decide +kernel
theorem dL_law_1249 : decode cL_law 1249 = .ok (.ifCond .eq 92, 3) := by decide +kernel
theorem dL_law_1252 : decode cL_law 1252 = .ok (.iconst 0, 1) := by decide +kernel
theorem dL_law_1253 : decode cL_law 1253 = .ok (.ireturn, 1) := by decide +kernel
theorem dL_law_1254 : decode cL_law 1254 = .ok (.aload_n 1, 1) := by decide +kernel
theorem dL_law_1255 : decode cL_law 1255 = .ok (.invokevirtual 160, 3) := by decide +kernel
theorem dL_law_1258 : decode cL_law 1258 = .ok (.aload_n 2, 1) := by decide +kernel
theorem dL_law_1259 : decode cL_law 1259 = .ok (.invokevirtual 163, 3) := by decide +kernel
theorem dL_law_1262 : decode cL_law 1262 = .ok (.lcmp, 1) := by decide +kernel
theorem dL_law_1263 : decode cL_law 1263 = .ok (.ifCond .eq 78, 3) := by decide +kernel
theorem dL_law_1266 : decode cL_law 1266 = .ok (.iconst 0, 1) := by decide +kernel
theorem dL_law_1267 : decode cL_law 1267 = .ok (.ireturn, 1) := by decide +kernel
theorem dL_law_1268 : decode cL_law 1268 = .ok (.aload_n 1, 1) := by decide +kernel
theorem dL_law_1269 : decode cL_law 1269 = .ok (.aload_n 0, 1) := by decide +kernel
theorem dL_law_1270 : decode cL_law 1270 = .ok (.iload_n 3, 1) := by decide +kernel
theorem dL_law_1271 : decode cL_law 1271 = .ok (.iconst 1, 1) := by decide +kernel
theorem dL_law_1272 : decode cL_law 1272 = .ok (.iadd, 1) := by decide +kernel
theorem dL_law_1273 : decode cL_law 1273 = .ok (.iaload, 1) := by decide +kernel
theorem dL_law_1274 : decode cL_law 1274 = .ok (.invokevirtual 164, 3) := by decide +kernel
theorem dL_law_1277 : decode cL_law 1277 = .ok (.aload_n 2, 1) := by decide +kernel
theorem dL_law_1278 : decode cL_law 1278 = .ok (.aload_n 0, 1) := by decide +kernel
theorem dL_law_1279 : decode cL_law 1279 = .ok (.iload_n 3, 1) := by decide +kernel
theorem dL_law_1280 : decode cL_law 1280 = .ok (.iconst 1, 1) := by decide +kernel
theorem dL_law_1281 : decode cL_law 1281 = .ok (.iadd, 1) := by decide +kernel
theorem dL_law_1282 : decode cL_law 1282 = .ok (.iaload, 1) := by decide +kernel
theorem dL_law_1283 : decode cL_law 1283 = .ok (.invokevirtual 167, 3) := by decide +kernel
theorem dL_law_1286 : decode cL_law 1286 = .ok (.if_icmp .eq 55, 3) := by decide +kernel
theorem dL_law_1289 : decode cL_law 1289 = .ok (.iconst 0, 1) := by decide +kernel
theorem dL_law_1290 : decode cL_law 1290 = .ok (.ireturn, 1) := by decide +kernel
theorem dL_law_1291 : decode cL_law 1291 = .ok (.aload_n 1, 1) := by decide +kernel
theorem dL_law_1292 : decode cL_law 1292 = .ok (.invokevirtual 168, 3) := by decide +kernel
theorem dL_law_1295 : decode cL_law 1295 = .ok (.aload_n 2, 1) := by decide +kernel
theorem dL_law_1296 : decode cL_law 1296 = .ok (.invokevirtual 171, 3) := by decide +kernel
theorem dL_law_1299 : decode cL_law 1299 = .ok (.if_icmp .eq 42, 3) := by decide +kernel
theorem dL_law_1302 : decode cL_law 1302 = .ok (.iconst 0, 1) := by decide +kernel
theorem dL_law_1303 : decode cL_law 1303 = .ok (.ireturn, 1) := by decide +kernel
theorem dL_law_1304 : decode cL_law 1304 = .ok (.aload_n 1, 1) := by decide +kernel
theorem dL_law_1305 : decode cL_law 1305 = .ok (.aload_n 0, 1) := by decide +kernel
theorem dL_law_1306 : decode cL_law 1306 = .ok (.iload_n 3, 1) := by decide +kernel
theorem dL_law_1307 : decode cL_law 1307 = .ok (.iconst 1, 1) := by decide +kernel
theorem dL_law_1308 : decode cL_law 1308 = .ok (.iadd, 1) := by decide +kernel
theorem dL_law_1309 : decode cL_law 1309 = .ok (.iaload, 1) := by decide +kernel
theorem dL_law_1310 : decode cL_law 1310 = .ok (.invokevirtual 172, 3) := by decide +kernel
theorem dL_law_1313 : decode cL_law 1313 = .ok (.aload_n 2, 1) := by decide +kernel
theorem dL_law_1314 : decode cL_law 1314 = .ok (.aload_n 0, 1) := by decide +kernel
theorem dL_law_1315 : decode cL_law 1315 = .ok (.iload_n 3, 1) := by decide +kernel
theorem dL_law_1316 : decode cL_law 1316 = .ok (.iconst 1, 1) := by decide +kernel
theorem dL_law_1317 : decode cL_law 1317 = .ok (.iadd, 1) := by decide +kernel
theorem dL_law_1318 : decode cL_law 1318 = .ok (.iaload, 1) := by decide +kernel
theorem dL_law_1319 : decode cL_law 1319 = .ok (.invokevirtual 175, 3) := by decide +kernel
theorem dL_law_1322 : decode cL_law 1322 = .ok (.if_icmp .eq 19, 3) := by decide +kernel
theorem dL_law_1325 : decode cL_law 1325 = .ok (.iconst 0, 1) := by decide +kernel
theorem dL_law_1326 : decode cL_law 1326 = .ok (.ireturn, 1) := by decide +kernel
theorem dL_law_1327 : decode cL_law 1327 = .ok (.aload_n 1, 1) := by decide +kernel
theorem dL_law_1328 : decode cL_law 1328 = .ok (.invokevirtual 176, 3) := by decide +kernel
theorem dL_law_1331 : decode cL_law 1331 = .ok (.aload_n 2, 1) := by decide +kernel
theorem dL_law_1332 : decode cL_law 1332 = .ok (.invokevirtual 179, 3) := by decide +kernel
theorem dL_law_1335 : decode cL_law 1335 = .ok (.lcmp, 1) := by decide +kernel
theorem dL_law_1336 : decode cL_law 1336 = .ok (.ifCond .eq 5, 3) := by decide +kernel
theorem dL_law_1339 : decode cL_law 1339 = .ok (.iconst 0, 1) := by decide +kernel
theorem dL_law_1340 : decode cL_law 1340 = .ok (.ireturn, 1) := by decide +kernel
theorem dL_law_1341 : decode cL_law 1341 = .ok (.iinc 3 6, 3) := by decide +kernel
theorem dL_law_1344 : decode cL_law 1344 = .ok (.goto (-1326), 3) := by decide +kernel
theorem dL_law_1347 : decode cL_law 1347 = .ok (.iconst 1, 1) := by decide +kernel
theorem dL_law_1348 : decode cL_law 1348 = .ok (.ireturn, 1) := by decide +kernel
def P_L_law_18 (L : Nat) (xs : Nat → Int32) (p1 : Nat) (p2 : Nat) : Nat → Int32 → PM Int32
  | 0, _ => failM
  | n + 1, q3 =>
    ifB (decide (((Int32.ofNat L) - 6) < q3)) (
    retZ 1) (
    sldM L xs q3 fun v3 =>
    jn (
    P_L_law_18 L xs p1 p2 n (q3 + 6)) fun k4 =>
    swT (v3 &&& 63) 0 [
    sldM L xs (q3 + 1) fun v5 =>
    sldM L xs (q3 + 2) fun v6 =>
    cllV 7 p1 (P_X7_row p1 v5 v6) fun v7 =>
    sldM L xs (q3 + 1) fun v8 =>
    sldM L xs (q3 + 2) fun v9 =>
    cllV 8 p2 (P_X8_row p2 v8 v9) fun v10 =>
    ifB (decide (v7 = v10)) (
    k4) (
    retZ 0),
    sldM L xs (q3 + 1) fun v11 =>
    sldM L xs (q3 + 2) fun v12 =>
    sldM L xs (q3 + 3) fun v13 =>
    cllV 7 p1 (P_X7_lay p1 v11 v12 v13) fun v14 =>
    sldM L xs (q3 + 1) fun v15 =>
    sldM L xs (q3 + 2) fun v16 =>
    sldM L xs (q3 + 3) fun v17 =>
    cllV 8 p2 (P_X8_lay p2 v15 v16 v17) fun v18 =>
    ifB (decide (v14 = v18)) (
    k4) (
    retZ 0),
    sldM L xs (q3 + 1) fun v19 =>
    sldM L xs (q3 + 2) fun v20 =>
    cllV 7 p1 (P_X7_at p1 v19 v20) fun v21 =>
    sldM L xs (q3 + 1) fun v22 =>
    sldM L xs (q3 + 2) fun v23 =>
    cllV 8 p2 (P_X8_at p2 v22 v23) fun v24 =>
    ifB (decide (v21 = v24)) (
    k4) (
    retZ 0),
    sldM L xs (q3 + 1) fun v25 =>
    cllV 7 p1 (P_X7_tear p1 v25) fun v26 =>
    sldM L xs (q3 + 1) fun v27 =>
    cllV 8 p2 (P_X8_tear p2 v27) fun v28 =>
    ifB (decide (v26 = v28)) (
    k4) (
    retZ 0),
    sldM L xs (q3 + 1) fun v29 =>
    sldM L xs (q3 + 2) fun v30 =>
    sldM L xs (q3 + 3) fun v31 =>
    sldM L xs (q3 + 4) fun v32 =>
    sldM L xs (q3 + 5) fun v33 =>
    cllV 7 p1 (P_X7_copy p1 v29 v30 v31 v32 v33) fun v34 =>
    sldM L xs (q3 + 1) fun v35 =>
    sldM L xs (q3 + 2) fun v36 =>
    sldM L xs (q3 + 3) fun v37 =>
    sldM L xs (q3 + 4) fun v38 =>
    sldM L xs (q3 + 5) fun v39 =>
    cllV 8 p2 (P_X8_copy p2 v35 v36 v37 v38 v39) fun v40 =>
    ifB (decide (v34 = v40)) (
    k4) (
    retZ 0),
    sldM L xs (q3 + 1) fun v41 =>
    cllV 7 p1 (P_X7_mean p1 v41) fun v42 =>
    sldM L xs (q3 + 1) fun v43 =>
    cllV 8 p2 (P_X8_mean p2 v43) fun v44 =>
    ifB (decide (v42 = v44)) (
    k4) (
    retZ 0),
    sldM L xs (q3 + 1) fun v45 =>
    sldM L xs (q3 + 2) fun v46 =>
    cllV 7 p1 (P_X7_text p1 v45 v46) fun v47 =>
    sldM L xs (q3 + 1) fun v48 =>
    sldM L xs (q3 + 2) fun v49 =>
    cllV 8 p2 (P_X8_text p2 v48 v49) fun v50 =>
    ifB (decide (v47 = v50)) (
    k4) (
    retZ 0),
    sldM L xs (q3 + 1) fun v51 =>
    sldM L xs (q3 + 2) fun v52 =>
    sldM L xs (q3 + 3) fun v53 =>
    cllV 7 p1 (P_X7_put p1 v51 v52 v53) fun v54 =>
    sldM L xs (q3 + 1) fun v55 =>
    sldM L xs (q3 + 2) fun v56 =>
    sldM L xs (q3 + 3) fun v57 =>
    cllV 8 p2 (P_X8_put p2 v55 v56 v57) fun v58 =>
    ifB (decide (v54 = v58)) (
    k4) (
    retZ 0),
    sldM L xs (q3 + 1) fun v59 =>
    cllV 7 p1 (P_X7_fault p1 v59) fun v60 =>
    sldM L xs (q3 + 1) fun v61 =>
    cllV 8 p2 (P_X8_fault p2 v61) fun v62 =>
    ifB (decide (v60 = v62)) (
    k4) (
    retZ 0),
    sldM L xs (q3 + 1) fun v63 =>
    cllV 7 p1 (P_X7_bridge p1 v63) fun v64 =>
    sldM L xs (q3 + 1) fun v65 =>
    cllV 8 p2 (P_X8_bridge p2 v65) fun v66 =>
    ifB (decide (v64 = v66)) (
    k4) (
    retZ 0),
    sldM L xs (q3 + 1) fun v67 =>
    sldM L xs (q3 + 2) fun v68 =>
    cllV 7 p1 (P_X7_one p1 v67 v68) fun v69 =>
    sldM L xs (q3 + 1) fun v70 =>
    sldM L xs (q3 + 2) fun v71 =>
    cllV 8 p2 (P_X8_one p2 v70 v71) fun v72 =>
    ifB (decide (v69 = v72)) (
    k4) (
    retZ 0),
    sldM L xs (q3 + 1) fun v73 =>
    sldM L xs (q3 + 2) fun v74 =>
    cllV 7 p1 (P_X7_mark p1 v73 v74) fun v75 =>
    sldM L xs (q3 + 1) fun v76 =>
    sldM L xs (q3 + 2) fun v77 =>
    cllV 8 p2 (P_X8_mark p2 v76 v77) fun v78 =>
    ifB (decide (v75 = v78)) (
    k4) (
    retZ 0),
    sldM L xs (q3 + 1) fun v79 =>
    sldM L xs (q3 + 2) fun v80 =>
    cllV 7 p1 (P_X7_talk p1 v79 v80) fun v81 =>
    sldM L xs (q3 + 1) fun v82 =>
    sldM L xs (q3 + 2) fun v83 =>
    cllV 8 p2 (P_X8_talk p2 v82 v83) fun v84 =>
    ifB (decide (v81 = v84)) (
    k4) (
    retZ 0),
    sldM L xs (q3 + 1) fun v85 =>
    sldM L xs (q3 + 2) fun v86 =>
    cllV 7 p1 (P_X7_watch p1 v85 v86) fun v87 =>
    sldM L xs (q3 + 1) fun v88 =>
    sldM L xs (q3 + 2) fun v89 =>
    cllV 8 p2 (P_X8_watch p2 v88 v89) fun v90 =>
    ifB (decide (v87 = v90)) (
    k4) (
    retZ 0),
    sldM L xs (q3 + 1) fun v91 =>
    cllV 7 p1 (P_X7_load p1 v91) fun v92 =>
    sldM L xs (q3 + 1) fun v93 =>
    cllV 8 p2 (P_X8_load p2 v93) fun v94 =>
    ifB (decide (v92 = v94)) (
    k4) (
    retZ 0),
    sldM L xs (q3 + 1) fun v95 =>
    cllV 7 p1 (P_X7_coffee p1 v95) fun v96 =>
    sldM L xs (q3 + 1) fun v97 =>
    cllV 8 p2 (P_X8_coffee p2 v97) fun v98 =>
    ifB (decide (v96 = v98)) (
    k4) (
    retZ 0),
    sldM L xs (q3 + 1) fun v99 =>
    cllV 7 p1 (P_X7_undo p1 v99) fun v100 =>
    sldM L xs (q3 + 1) fun v101 =>
    cllV 8 p2 (P_X8_undo p2 v101) fun v102 =>
    ifB (decide (v100 = v102)) (
    k4) (
    retZ 0),
    sldM L xs (q3 + 1) fun v103 =>
    cllV 7 p1 (P_X7_keep p1 v103) fun v104 =>
    sldM L xs (q3 + 1) fun v105 =>
    cllV 8 p2 (P_X8_keep p2 v105) fun v106 =>
    ifB (decide (v104 = v106)) (
    k4) (
    retZ 0),
    sldM L xs (q3 + 1) fun v107 =>
    cllV 7 p1 (P_X7_on p1 v107) fun v108 =>
    sldM L xs (q3 + 1) fun v109 =>
    cllV 8 p2 (P_X8_on p2 v109) fun v110 =>
    ifB (decide (v108 = v110)) (
    k4) (
    retZ 0),
    sldM L xs (q3 + 1) fun v111 =>
    sldM L xs (q3 + 2) fun v112 =>
    cllV 7 p1 (P_X7_best p1 v111 v112) fun v113 =>
    sldM L xs (q3 + 1) fun v114 =>
    sldM L xs (q3 + 2) fun v115 =>
    cllV 8 p2 (P_X8_best p2 v114 v115) fun v116 =>
    ifB (decide (v113 = v116)) (
    k4) (
    retZ 0),
    sldM L xs (q3 + 1) fun v117 =>
    cllV 7 p1 (P_X7_through p1 v117) fun v118 =>
    sldM L xs (q3 + 1) fun v119 =>
    cllV 8 p2 (P_X8_through p2 v119) fun v120 =>
    ifB (decide (v118 = v120)) (
    k4) (
    retZ 0),
    sldM L xs (q3 + 1) fun v121 =>
    sldM L xs (q3 + 2) fun v122 =>
    cllV 7 p1 (P_X7_when p1 v121 v122) fun v123 =>
    sldM L xs (q3 + 1) fun v124 =>
    sldM L xs (q3 + 2) fun v125 =>
    cllV 8 p2 (P_X8_when p2 v124 v125) fun v126 =>
    ifB (decide (v123 = v126)) (
    k4) (
    retZ 0),
    sldM L xs (q3 + 1) fun v127 =>
    cllV 7 p1 (P_X7_bear p1 v127) fun v128 =>
    sldM L xs (q3 + 1) fun v129 =>
    cllV 8 p2 (P_X8_bear p2 v129) fun v130 =>
    ifB (decide (v128 = v130)) (
    k4) (
    retZ 0),
    sldM L xs (q3 + 1) fun v131 =>
    cllV 7 p1 (P_X7_sagged p1 v131) fun v132 =>
    sldM L xs (q3 + 1) fun v133 =>
    cllV 8 p2 (P_X8_sagged p2 v133) fun v134 =>
    ifB (decide (v132 = v134)) (
    k4) (
    retZ 0),
    sldM L xs (q3 + 1) fun v135 =>
    cllV 7 p1 (P_X7_sure p1 v135) fun v136 =>
    sldM L xs (q3 + 1) fun v137 =>
    cllV 8 p2 (P_X8_sure p2 v137) fun v138 =>
    ifB (decide (v136 = v138)) (
    k4) (
    retZ 0),
    sldM L xs (q3 + 1) fun v139 =>
    sldM L xs (q3 + 2) fun v140 =>
    cllV 7 p1 (P_X7_lasts p1 v139 v140) fun v141 =>
    sldM L xs (q3 + 1) fun v142 =>
    sldM L xs (q3 + 2) fun v143 =>
    cllV 8 p2 (P_X8_lasts p2 v142 v143) fun v144 =>
    ifB (decide (v141 = v144)) (
    k4) (
    retZ 0),
    sldM L xs (q3 + 1) fun v145 =>
    sldM L xs (q3 + 2) fun v146 =>
    cllV 7 p1 (P_X7_kinds p1 v145 v146) fun v147 =>
    sldM L xs (q3 + 1) fun v148 =>
    sldM L xs (q3 + 2) fun v149 =>
    cllV 8 p2 (P_X8_kinds p2 v148 v149) fun v150 =>
    ifB (decide (v147 = v150)) (
    k4) (
    retZ 0),
    sldM L xs (q3 + 1) fun v151 =>
    sldM L xs (q3 + 2) fun v152 =>
    cllV 7 p1 (P_X7_test p1 v151 v152) fun v153 =>
    sldM L xs (q3 + 1) fun v154 =>
    sldM L xs (q3 + 2) fun v155 =>
    cllV 8 p2 (P_X8_test p2 v154 v155) fun v156 =>
    ifB (decide (v153 = v156)) (
    k4) (
    retZ 0),
    sldM L xs (q3 + 1) fun v157 =>
    cllV 7 p1 (P_X7_pairs p1 v157) fun v158 =>
    sldM L xs (q3 + 1) fun v159 =>
    cllV 8 p2 (P_X8_pairs p2 v159) fun v160 =>
    ifB (decide (v158 = v160)) (
    k4) (
    retZ 0),
    sldM L xs (q3 + 1) fun v161 =>
    cllV 7 p1 (P_X7_duel p1 v161) fun v162 =>
    sldM L xs (q3 + 1) fun v163 =>
    cllV 8 p2 (P_X8_duel p2 v163) fun v164 =>
    ifB (decide (v162 = v164)) (
    k4) (
    retZ 0),
    sldM L xs (q3 + 1) fun v165 =>
    sldM L xs (q3 + 2) fun v166 =>
    sldM L xs (q3 + 3) fun v167 =>
    sldM L xs (q3 + 4) fun v168 =>
    cllV 7 p1 (P_X7_odds p1 v165 v166 v167 v168) fun v169 =>
    sldM L xs (q3 + 1) fun v170 =>
    sldM L xs (q3 + 2) fun v171 =>
    sldM L xs (q3 + 3) fun v172 =>
    sldM L xs (q3 + 4) fun v173 =>
    cllV 8 p2 (P_X8_odds p2 v170 v171 v172 v173) fun v174 =>
    ifB (decide (v169 = v174)) (
    k4) (
    retZ 0),
    sldM L xs (q3 + 1) fun v175 =>
    sldM L xs (q3 + 2) fun v176 =>
    sldM L xs (q3 + 3) fun v177 =>
    cllV 7 p1 (P_X7_mid p1 v175 v176 v177) fun v178 =>
    sldM L xs (q3 + 1) fun v179 =>
    sldM L xs (q3 + 2) fun v180 =>
    sldM L xs (q3 + 3) fun v181 =>
    cllV 8 p2 (P_X8_mid p2 v179 v180 v181) fun v182 =>
    ifB (decide (v178 = v182)) (
    k4) (
    retZ 0),
    sldM L xs (q3 + 1) fun v183 =>
    sldM L xs (q3 + 2) fun v184 =>
    cllV 7 p1 (P_X7_lots p1 v183 v184) fun v185 =>
    sldM L xs (q3 + 1) fun v186 =>
    sldM L xs (q3 + 2) fun v187 =>
    cllV 8 p2 (P_X8_lots p2 v186 v187) fun v188 =>
    ifB (decide (v185 = v188)) (
    k4) (
    retZ 0),
    cllV 7 p1 (P_X7_asked p1) fun v189 =>
    cllV 8 p2 (P_X8_asked p2) fun v190 =>
    ifB (decide (v189 = v190)) (
    k4) (
    retZ 0),
    cllV 7 p1 (P_X7_upper p1) fun v191 =>
    cllV 8 p2 (P_X8_upper p2) fun v192 =>
    ifB (decide ((lg_cmp v191 v192) = 0)) (
    k4) (
    retZ 0),
    cllV 7 p1 (P_X7_lower p1) fun v193 =>
    cllV 8 p2 (P_X8_lower p2) fun v194 =>
    ifB (decide ((lg_cmp v193 v194) = 0)) (
    k4) (
    retZ 0),
    sldM L xs (q3 + 1) fun v195 =>
    cllV 7 p1 (P_X7_count p1 v195) fun v196 =>
    sldM L xs (q3 + 1) fun v197 =>
    cllV 8 p2 (P_X8_count p2 v197) fun v198 =>
    ifB (decide (v196 = v198)) (
    k4) (
    retZ 0),
    cllV 7 p1 (P_X7_finding p1) fun v199 =>
    cllV 8 p2 (P_X8_finding p2) fun v200 =>
    ifB (decide (v199 = v200)) (
    k4) (
    retZ 0),
    sldM L xs (q3 + 1) fun v201 =>
    cllV 7 p1 (P_X7_findings p1 v201) fun v202 =>
    sldM L xs (q3 + 1) fun v203 =>
    cllV 8 p2 (P_X8_findings p2 v203) fun v204 =>
    ifB (decide (v202 = v204)) (
    k4) (
    retZ 0),
    cllV 7 p1 (P_X7_digest p1) fun v205 =>
    cllV 8 p2 (P_X8_digest p2) fun v206 =>
    ifB (decide ((lg_cmp v205 v206) = 0)) (
    k4) (
    retZ 0)] (
    k4))
def P_L_law (L : Nat) (xs : Nat → Int32) : PM Int32 :=
newO 7 13 [.null, .null, .null, .null, .null, .null, .null, .null, .null, .int 0, .int 0, .long 0, .long 0] fun o1 =>
cllA (P_X7_init o1) fun _ =>
newO 8 37 [.null, .null, .null, .null, .null, .null, .null, .null, .null, .null, .int 0, .int 0, .int 0, .null, .int 0, .long 0, .long 0, .null, .int 0, .int 0, .int 0, .int 0, .int 0, .int 0, .null, .null, .null, .null, .null, .int 0, .int 0, .int 0, .int 0, .int 0, .null, .null, .null] fun o2 =>
cllA (P_X8_init o2) fun _ =>
P_L_law_18 L xs o1 o2 4000 0
set_option maxHeartbeats 4000000 in
set_option maxRecDepth 100000 in
theorem W_L_law_18 {Γ : Cx} {nm : String} (ok : OKc Γ cL_law RL 17 nm) (okr : OKr Γ cL_law (some .boolean)) {L : Nat} {xs : Nat → Int32} (oks : OKs Γ L xs) (p1 : Nat) (p2 : Nat) : ∀ (n : Nat) (q3 : Int32), SW Γ iI 18 [some (.ref 0), some (.ref p1), some (.ref p2), some (.int q3)] [] (P_L_law_18 L xs p1 p2 n q3) := by
  intro n
  induction n with
  | zero =>
    intros
    exact sw_fail
  | succ n ih =>
    intro q3
    unfold P_L_law_18
    refine sw_iload_n (z := q3) (pc' := 19) ok dL_law_18 rfl rfl ?_
    refine sw_aload_n (z := 0) (pc' := 20) ok dL_law_19 rfl rfl ?_
    refine sw_slen (pc' := 21) ok oks dL_law_20 rfl ?_
    refine sw_bipush (v := 6) (pc' := 23) ok dL_law_21 rfl cc_bipush_6 ?_
    refine sw_isub (pc' := 24) ok dL_law_23 rfl ?_
    refine sw_icmp_gt (tgt := 1347) (pc' := 27) ok dL_law_24 (by decide) rfl ?_ ?_
    · refine sw_iconst (v := 1) (pc' := 1348) ok dL_law_1347 rfl cc_iconst_1 ?_
      exact sw_retZ ok okr dL_law_1348
    refine sw_aload_n (z := 0) (pc' := 28) ok dL_law_27 rfl rfl ?_
    refine sw_iload_n (z := q3) (pc' := 29) ok dL_law_28 rfl rfl ?_
    refine sw_sld (pc' := 30) ok oks dL_law_29 rfl (fun v3 => ?_)
    refine sw_bipush (v := 63) (pc' := 32) ok dL_law_30 rfl cc_bipush_63 ?_
    refine sw_iand (pc' := 33) ok dL_law_32 rfl ?_
    refine sw_jn (fun k4 : PM Int32 => SW Γ iI 1341 [some (.ref 0), some (.ref p1), some (.ref p2), some (.int q3)] [] (k4)) ?_ (fun k4 hk4 => ?_)
    · refine sw_iinc (z := q3) (v := q3 + 6) (pc' := 1344) (l' := [some (.ref 0), some (.ref p1), some (.ref p2), some (.int (q3 + 6))]) ok dL_law_1341 rfl rfl (by rw [cc_iconst_6]) rfl ?_
      refine sw_goto (tgt := 18) ok dL_law_1344 (by decide) ?_
      exact ih (q3 + 6)
    refine sw_tsw (tgt := 1341) ok dL_law_33 (by decide) (by rfl) ⟨⟨208, by decide, ?_⟩, ⟨241, by decide, ?_⟩, ⟨284, by decide, ?_⟩, ⟨317, by decide, ?_⟩, ⟨340, by decide, ?_⟩, ⟨403, by decide, ?_⟩, ⟨426, by decide, ?_⟩, ⟨459, by decide, ?_⟩, ⟨502, by decide, ?_⟩, ⟨525, by decide, ?_⟩, ⟨548, by decide, ?_⟩, ⟨581, by decide, ?_⟩, ⟨614, by decide, ?_⟩, ⟨647, by decide, ?_⟩, ⟨680, by decide, ?_⟩, ⟨703, by decide, ?_⟩, ⟨726, by decide, ?_⟩, ⟨749, by decide, ?_⟩, ⟨772, by decide, ?_⟩, ⟨795, by decide, ?_⟩, ⟨828, by decide, ?_⟩, ⟨851, by decide, ?_⟩, ⟨884, by decide, ?_⟩, ⟨907, by decide, ?_⟩, ⟨930, by decide, ?_⟩, ⟨953, by decide, ?_⟩, ⟨986, by decide, ?_⟩, ⟨1019, by decide, ?_⟩, ⟨1052, by decide, ?_⟩, ⟨1075, by decide, ?_⟩, ⟨1098, by decide, ?_⟩, ⟨1151, by decide, ?_⟩, ⟨1194, by decide, ?_⟩, ⟨1227, by decide, ?_⟩, ⟨1240, by decide, ?_⟩, ⟨1254, by decide, ?_⟩, ⟨1268, by decide, ?_⟩, ⟨1291, by decide, ?_⟩, ⟨1304, by decide, ?_⟩, ⟨1327, by decide, ?_⟩, trivial⟩ ?_
    · refine sw_aload_n (z := p1) (pc' := 209) ok dL_law_208 rfl rfl ?_
      refine sw_aload_n (z := 0) (pc' := 210) ok dL_law_209 rfl rfl ?_
      refine sw_iload_n (z := q3) (pc' := 211) ok dL_law_210 rfl rfl ?_
      refine sw_iconst (v := 1) (pc' := 212) ok dL_law_211 rfl cc_iconst_1 ?_
      refine sw_iadd (pc' := 213) ok dL_law_212 rfl ?_
      refine sw_sld (pc' := 214) ok oks dL_law_213 rfl (fun v5 => ?_)
      refine sw_aload_n (z := 0) (pc' := 215) ok dL_law_214 rfl rfl ?_
      refine sw_iload_n (z := q3) (pc' := 216) ok dL_law_215 rfl rfl ?_
      refine sw_iconst (v := 2) (pc' := 217) ok dL_law_216 rfl cc_iconst_2 ?_
      refine sw_iadd (pc' := 218) ok dL_law_217 rfl ?_
      refine sw_sld (pc' := 219) ok oks dL_law_218 rfl (fun v6 => ?_)
      refine sw_cllV_I (st := []) (as := [.int v5, .int v6]) (pc' := 222) ok (S_X7_row p1 v5 v6) (by decide) lk_L_13 rfl dL_law_219 rfl (Nat.le_of_ble_eq_true rfl) rfl (fun v7 => ?_)
      refine sw_aload_n (z := p2) (pc' := 223) ok dL_law_222 rfl rfl ?_
      refine sw_aload_n (z := 0) (pc' := 224) ok dL_law_223 rfl rfl ?_
      refine sw_iload_n (z := q3) (pc' := 225) ok dL_law_224 rfl rfl ?_
      refine sw_iconst (v := 1) (pc' := 226) ok dL_law_225 rfl cc_iconst_1 ?_
      refine sw_iadd (pc' := 227) ok dL_law_226 rfl ?_
      refine sw_sld (pc' := 228) ok oks dL_law_227 rfl (fun v8 => ?_)
      refine sw_aload_n (z := 0) (pc' := 229) ok dL_law_228 rfl rfl ?_
      refine sw_iload_n (z := q3) (pc' := 230) ok dL_law_229 rfl rfl ?_
      refine sw_iconst (v := 2) (pc' := 231) ok dL_law_230 rfl cc_iconst_2 ?_
      refine sw_iadd (pc' := 232) ok dL_law_231 rfl ?_
      refine sw_sld (pc' := 233) ok oks dL_law_232 rfl (fun v9 => ?_)
      refine sw_cllV_I (st := [.int v7]) (as := [.int v8, .int v9]) (pc' := 236) ok (S_X8_row p2 v8 v9) (by decide) lk_L_17 rfl dL_law_233 rfl (Nat.le_of_ble_eq_true rfl) rfl (fun v10 => ?_)
      refine sw_icmp_eq (tgt := 1341) (pc' := 239) ok dL_law_236 (by decide) rfl ?_ ?_
      · exact hk4
      refine sw_iconst (v := 0) (pc' := 240) ok dL_law_239 rfl cc_iconst_0 ?_
      exact sw_retZ ok okr dL_law_240
    · refine sw_aload_n (z := p1) (pc' := 242) ok dL_law_241 rfl rfl ?_
      refine sw_aload_n (z := 0) (pc' := 243) ok dL_law_242 rfl rfl ?_
      refine sw_iload_n (z := q3) (pc' := 244) ok dL_law_243 rfl rfl ?_
      refine sw_iconst (v := 1) (pc' := 245) ok dL_law_244 rfl cc_iconst_1 ?_
      refine sw_iadd (pc' := 246) ok dL_law_245 rfl ?_
      refine sw_sld (pc' := 247) ok oks dL_law_246 rfl (fun v11 => ?_)
      refine sw_aload_n (z := 0) (pc' := 248) ok dL_law_247 rfl rfl ?_
      refine sw_iload_n (z := q3) (pc' := 249) ok dL_law_248 rfl rfl ?_
      refine sw_iconst (v := 2) (pc' := 250) ok dL_law_249 rfl cc_iconst_2 ?_
      refine sw_iadd (pc' := 251) ok dL_law_250 rfl ?_
      refine sw_sld (pc' := 252) ok oks dL_law_251 rfl (fun v12 => ?_)
      refine sw_aload_n (z := 0) (pc' := 253) ok dL_law_252 rfl rfl ?_
      refine sw_iload_n (z := q3) (pc' := 254) ok dL_law_253 rfl rfl ?_
      refine sw_iconst (v := 3) (pc' := 255) ok dL_law_254 rfl cc_iconst_3 ?_
      refine sw_iadd (pc' := 256) ok dL_law_255 rfl ?_
      refine sw_sld (pc' := 257) ok oks dL_law_256 rfl (fun v13 => ?_)
      refine sw_cllV_I (st := []) (as := [.int v11, .int v12, .int v13]) (pc' := 260) ok (S_X7_lay p1 v11 v12 v13) (by decide) lk_L_18 rfl dL_law_257 rfl (Nat.le_of_ble_eq_true rfl) rfl (fun v14 => ?_)
      refine sw_aload_n (z := p2) (pc' := 261) ok dL_law_260 rfl rfl ?_
      refine sw_aload_n (z := 0) (pc' := 262) ok dL_law_261 rfl rfl ?_
      refine sw_iload_n (z := q3) (pc' := 263) ok dL_law_262 rfl rfl ?_
      refine sw_iconst (v := 1) (pc' := 264) ok dL_law_263 rfl cc_iconst_1 ?_
      refine sw_iadd (pc' := 265) ok dL_law_264 rfl ?_
      refine sw_sld (pc' := 266) ok oks dL_law_265 rfl (fun v15 => ?_)
      refine sw_aload_n (z := 0) (pc' := 267) ok dL_law_266 rfl rfl ?_
      refine sw_iload_n (z := q3) (pc' := 268) ok dL_law_267 rfl rfl ?_
      refine sw_iconst (v := 2) (pc' := 269) ok dL_law_268 rfl cc_iconst_2 ?_
      refine sw_iadd (pc' := 270) ok dL_law_269 rfl ?_
      refine sw_sld (pc' := 271) ok oks dL_law_270 rfl (fun v16 => ?_)
      refine sw_aload_n (z := 0) (pc' := 272) ok dL_law_271 rfl rfl ?_
      refine sw_iload_n (z := q3) (pc' := 273) ok dL_law_272 rfl rfl ?_
      refine sw_iconst (v := 3) (pc' := 274) ok dL_law_273 rfl cc_iconst_3 ?_
      refine sw_iadd (pc' := 275) ok dL_law_274 rfl ?_
      refine sw_sld (pc' := 276) ok oks dL_law_275 rfl (fun v17 => ?_)
      refine sw_cllV_I (st := [.int v14]) (as := [.int v15, .int v16, .int v17]) (pc' := 279) ok (S_X8_lay p2 v15 v16 v17) (by decide) lk_L_22 rfl dL_law_276 rfl (Nat.le_of_ble_eq_true rfl) rfl (fun v18 => ?_)
      refine sw_icmp_eq (tgt := 1341) (pc' := 282) ok dL_law_279 (by decide) rfl ?_ ?_
      · exact hk4
      refine sw_iconst (v := 0) (pc' := 283) ok dL_law_282 rfl cc_iconst_0 ?_
      exact sw_retZ ok okr dL_law_283
    · refine sw_aload_n (z := p1) (pc' := 285) ok dL_law_284 rfl rfl ?_
      refine sw_aload_n (z := 0) (pc' := 286) ok dL_law_285 rfl rfl ?_
      refine sw_iload_n (z := q3) (pc' := 287) ok dL_law_286 rfl rfl ?_
      refine sw_iconst (v := 1) (pc' := 288) ok dL_law_287 rfl cc_iconst_1 ?_
      refine sw_iadd (pc' := 289) ok dL_law_288 rfl ?_
      refine sw_sld (pc' := 290) ok oks dL_law_289 rfl (fun v19 => ?_)
      refine sw_aload_n (z := 0) (pc' := 291) ok dL_law_290 rfl rfl ?_
      refine sw_iload_n (z := q3) (pc' := 292) ok dL_law_291 rfl rfl ?_
      refine sw_iconst (v := 2) (pc' := 293) ok dL_law_292 rfl cc_iconst_2 ?_
      refine sw_iadd (pc' := 294) ok dL_law_293 rfl ?_
      refine sw_sld (pc' := 295) ok oks dL_law_294 rfl (fun v20 => ?_)
      refine sw_cllV_I (st := []) (as := [.int v19, .int v20]) (pc' := 298) ok (S_X7_at p1 v19 v20) (by decide) lk_L_23 rfl dL_law_295 rfl (Nat.le_of_ble_eq_true rfl) rfl (fun v21 => ?_)
      refine sw_aload_n (z := p2) (pc' := 299) ok dL_law_298 rfl rfl ?_
      refine sw_aload_n (z := 0) (pc' := 300) ok dL_law_299 rfl rfl ?_
      refine sw_iload_n (z := q3) (pc' := 301) ok dL_law_300 rfl rfl ?_
      refine sw_iconst (v := 1) (pc' := 302) ok dL_law_301 rfl cc_iconst_1 ?_
      refine sw_iadd (pc' := 303) ok dL_law_302 rfl ?_
      refine sw_sld (pc' := 304) ok oks dL_law_303 rfl (fun v22 => ?_)
      refine sw_aload_n (z := 0) (pc' := 305) ok dL_law_304 rfl rfl ?_
      refine sw_iload_n (z := q3) (pc' := 306) ok dL_law_305 rfl rfl ?_
      refine sw_iconst (v := 2) (pc' := 307) ok dL_law_306 rfl cc_iconst_2 ?_
      refine sw_iadd (pc' := 308) ok dL_law_307 rfl ?_
      refine sw_sld (pc' := 309) ok oks dL_law_308 rfl (fun v23 => ?_)
      refine sw_cllV_I (st := [.int v21]) (as := [.int v22, .int v23]) (pc' := 312) ok (S_X8_at p2 v22 v23) (by decide) lk_L_26 rfl dL_law_309 rfl (Nat.le_of_ble_eq_true rfl) rfl (fun v24 => ?_)
      refine sw_icmp_eq (tgt := 1341) (pc' := 315) ok dL_law_312 (by decide) rfl ?_ ?_
      · exact hk4
      refine sw_iconst (v := 0) (pc' := 316) ok dL_law_315 rfl cc_iconst_0 ?_
      exact sw_retZ ok okr dL_law_316
    · refine sw_aload_n (z := p1) (pc' := 318) ok dL_law_317 rfl rfl ?_
      refine sw_aload_n (z := 0) (pc' := 319) ok dL_law_318 rfl rfl ?_
      refine sw_iload_n (z := q3) (pc' := 320) ok dL_law_319 rfl rfl ?_
      refine sw_iconst (v := 1) (pc' := 321) ok dL_law_320 rfl cc_iconst_1 ?_
      refine sw_iadd (pc' := 322) ok dL_law_321 rfl ?_
      refine sw_sld (pc' := 323) ok oks dL_law_322 rfl (fun v25 => ?_)
      refine sw_cllV_I (st := []) (as := [.int v25]) (pc' := 326) ok (S_X7_tear p1 v25) (by decide) lk_L_27 rfl dL_law_323 rfl (Nat.le_of_ble_eq_true rfl) rfl (fun v26 => ?_)
      refine sw_aload_n (z := p2) (pc' := 327) ok dL_law_326 rfl rfl ?_
      refine sw_aload_n (z := 0) (pc' := 328) ok dL_law_327 rfl rfl ?_
      refine sw_iload_n (z := q3) (pc' := 329) ok dL_law_328 rfl rfl ?_
      refine sw_iconst (v := 1) (pc' := 330) ok dL_law_329 rfl cc_iconst_1 ?_
      refine sw_iadd (pc' := 331) ok dL_law_330 rfl ?_
      refine sw_sld (pc' := 332) ok oks dL_law_331 rfl (fun v27 => ?_)
      refine sw_cllV_I (st := [.int v26]) (as := [.int v27]) (pc' := 335) ok (S_X8_tear p2 v27) (by decide) lk_L_31 rfl dL_law_332 rfl (Nat.le_of_ble_eq_true rfl) rfl (fun v28 => ?_)
      refine sw_icmp_eq (tgt := 1341) (pc' := 338) ok dL_law_335 (by decide) rfl ?_ ?_
      · exact hk4
      refine sw_iconst (v := 0) (pc' := 339) ok dL_law_338 rfl cc_iconst_0 ?_
      exact sw_retZ ok okr dL_law_339
    · refine sw_aload_n (z := p1) (pc' := 341) ok dL_law_340 rfl rfl ?_
      refine sw_aload_n (z := 0) (pc' := 342) ok dL_law_341 rfl rfl ?_
      refine sw_iload_n (z := q3) (pc' := 343) ok dL_law_342 rfl rfl ?_
      refine sw_iconst (v := 1) (pc' := 344) ok dL_law_343 rfl cc_iconst_1 ?_
      refine sw_iadd (pc' := 345) ok dL_law_344 rfl ?_
      refine sw_sld (pc' := 346) ok oks dL_law_345 rfl (fun v29 => ?_)
      refine sw_aload_n (z := 0) (pc' := 347) ok dL_law_346 rfl rfl ?_
      refine sw_iload_n (z := q3) (pc' := 348) ok dL_law_347 rfl rfl ?_
      refine sw_iconst (v := 2) (pc' := 349) ok dL_law_348 rfl cc_iconst_2 ?_
      refine sw_iadd (pc' := 350) ok dL_law_349 rfl ?_
      refine sw_sld (pc' := 351) ok oks dL_law_350 rfl (fun v30 => ?_)
      refine sw_aload_n (z := 0) (pc' := 352) ok dL_law_351 rfl rfl ?_
      refine sw_iload_n (z := q3) (pc' := 353) ok dL_law_352 rfl rfl ?_
      refine sw_iconst (v := 3) (pc' := 354) ok dL_law_353 rfl cc_iconst_3 ?_
      refine sw_iadd (pc' := 355) ok dL_law_354 rfl ?_
      refine sw_sld (pc' := 356) ok oks dL_law_355 rfl (fun v31 => ?_)
      refine sw_aload_n (z := 0) (pc' := 357) ok dL_law_356 rfl rfl ?_
      refine sw_iload_n (z := q3) (pc' := 358) ok dL_law_357 rfl rfl ?_
      refine sw_iconst (v := 4) (pc' := 359) ok dL_law_358 rfl cc_iconst_4 ?_
      refine sw_iadd (pc' := 360) ok dL_law_359 rfl ?_
      refine sw_sld (pc' := 361) ok oks dL_law_360 rfl (fun v32 => ?_)
      refine sw_aload_n (z := 0) (pc' := 362) ok dL_law_361 rfl rfl ?_
      refine sw_iload_n (z := q3) (pc' := 363) ok dL_law_362 rfl rfl ?_
      refine sw_iconst (v := 5) (pc' := 364) ok dL_law_363 rfl cc_iconst_5 ?_
      refine sw_iadd (pc' := 365) ok dL_law_364 rfl ?_
      refine sw_sld (pc' := 366) ok oks dL_law_365 rfl (fun v33 => ?_)
      refine sw_cllV_I (st := []) (as := [.int v29, .int v30, .int v31, .int v32, .int v33]) (pc' := 369) ok (S_X7_copy p1 v29 v30 v31 v32 v33) (by decide) lk_L_32 rfl dL_law_366 rfl (Nat.le_of_ble_eq_true rfl) rfl (fun v34 => ?_)
      refine sw_aload_n (z := p2) (pc' := 370) ok dL_law_369 rfl rfl ?_
      refine sw_aload_n (z := 0) (pc' := 371) ok dL_law_370 rfl rfl ?_
      refine sw_iload_n (z := q3) (pc' := 372) ok dL_law_371 rfl rfl ?_
      refine sw_iconst (v := 1) (pc' := 373) ok dL_law_372 rfl cc_iconst_1 ?_
      refine sw_iadd (pc' := 374) ok dL_law_373 rfl ?_
      refine sw_sld (pc' := 375) ok oks dL_law_374 rfl (fun v35 => ?_)
      refine sw_aload_n (z := 0) (pc' := 376) ok dL_law_375 rfl rfl ?_
      refine sw_iload_n (z := q3) (pc' := 377) ok dL_law_376 rfl rfl ?_
      refine sw_iconst (v := 2) (pc' := 378) ok dL_law_377 rfl cc_iconst_2 ?_
      refine sw_iadd (pc' := 379) ok dL_law_378 rfl ?_
      refine sw_sld (pc' := 380) ok oks dL_law_379 rfl (fun v36 => ?_)
      refine sw_aload_n (z := 0) (pc' := 381) ok dL_law_380 rfl rfl ?_
      refine sw_iload_n (z := q3) (pc' := 382) ok dL_law_381 rfl rfl ?_
      refine sw_iconst (v := 3) (pc' := 383) ok dL_law_382 rfl cc_iconst_3 ?_
      refine sw_iadd (pc' := 384) ok dL_law_383 rfl ?_
      refine sw_sld (pc' := 385) ok oks dL_law_384 rfl (fun v37 => ?_)
      refine sw_aload_n (z := 0) (pc' := 386) ok dL_law_385 rfl rfl ?_
      refine sw_iload_n (z := q3) (pc' := 387) ok dL_law_386 rfl rfl ?_
      refine sw_iconst (v := 4) (pc' := 388) ok dL_law_387 rfl cc_iconst_4 ?_
      refine sw_iadd (pc' := 389) ok dL_law_388 rfl ?_
      refine sw_sld (pc' := 390) ok oks dL_law_389 rfl (fun v38 => ?_)
      refine sw_aload_n (z := 0) (pc' := 391) ok dL_law_390 rfl rfl ?_
      refine sw_iload_n (z := q3) (pc' := 392) ok dL_law_391 rfl rfl ?_
      refine sw_iconst (v := 5) (pc' := 393) ok dL_law_392 rfl cc_iconst_5 ?_
      refine sw_iadd (pc' := 394) ok dL_law_393 rfl ?_
      refine sw_sld (pc' := 395) ok oks dL_law_394 rfl (fun v39 => ?_)
      refine sw_cllV_I (st := [.int v34]) (as := [.int v35, .int v36, .int v37, .int v38, .int v39]) (pc' := 398) ok (S_X8_copy p2 v35 v36 v37 v38 v39) (by decide) lk_L_36 rfl dL_law_395 rfl (Nat.le_of_ble_eq_true rfl) rfl (fun v40 => ?_)
      refine sw_icmp_eq (tgt := 1341) (pc' := 401) ok dL_law_398 (by decide) rfl ?_ ?_
      · exact hk4
      refine sw_iconst (v := 0) (pc' := 402) ok dL_law_401 rfl cc_iconst_0 ?_
      exact sw_retZ ok okr dL_law_402
    · refine sw_aload_n (z := p1) (pc' := 404) ok dL_law_403 rfl rfl ?_
      refine sw_aload_n (z := 0) (pc' := 405) ok dL_law_404 rfl rfl ?_
      refine sw_iload_n (z := q3) (pc' := 406) ok dL_law_405 rfl rfl ?_
      refine sw_iconst (v := 1) (pc' := 407) ok dL_law_406 rfl cc_iconst_1 ?_
      refine sw_iadd (pc' := 408) ok dL_law_407 rfl ?_
      refine sw_sld (pc' := 409) ok oks dL_law_408 rfl (fun v41 => ?_)
      refine sw_cllV_I (st := []) (as := [.int v41]) (pc' := 412) ok (S_X7_mean p1 v41) (by decide) lk_L_37 rfl dL_law_409 rfl (Nat.le_of_ble_eq_true rfl) rfl (fun v42 => ?_)
      refine sw_aload_n (z := p2) (pc' := 413) ok dL_law_412 rfl rfl ?_
      refine sw_aload_n (z := 0) (pc' := 414) ok dL_law_413 rfl rfl ?_
      refine sw_iload_n (z := q3) (pc' := 415) ok dL_law_414 rfl rfl ?_
      refine sw_iconst (v := 1) (pc' := 416) ok dL_law_415 rfl cc_iconst_1 ?_
      refine sw_iadd (pc' := 417) ok dL_law_416 rfl ?_
      refine sw_sld (pc' := 418) ok oks dL_law_417 rfl (fun v43 => ?_)
      refine sw_cllV_I (st := [.int v42]) (as := [.int v43]) (pc' := 421) ok (S_X8_mean p2 v43) (by decide) lk_L_40 rfl dL_law_418 rfl (Nat.le_of_ble_eq_true rfl) rfl (fun v44 => ?_)
      refine sw_icmp_eq (tgt := 1341) (pc' := 424) ok dL_law_421 (by decide) rfl ?_ ?_
      · exact hk4
      refine sw_iconst (v := 0) (pc' := 425) ok dL_law_424 rfl cc_iconst_0 ?_
      exact sw_retZ ok okr dL_law_425
    · refine sw_aload_n (z := p1) (pc' := 427) ok dL_law_426 rfl rfl ?_
      refine sw_aload_n (z := 0) (pc' := 428) ok dL_law_427 rfl rfl ?_
      refine sw_iload_n (z := q3) (pc' := 429) ok dL_law_428 rfl rfl ?_
      refine sw_iconst (v := 1) (pc' := 430) ok dL_law_429 rfl cc_iconst_1 ?_
      refine sw_iadd (pc' := 431) ok dL_law_430 rfl ?_
      refine sw_sld (pc' := 432) ok oks dL_law_431 rfl (fun v45 => ?_)
      refine sw_aload_n (z := 0) (pc' := 433) ok dL_law_432 rfl rfl ?_
      refine sw_iload_n (z := q3) (pc' := 434) ok dL_law_433 rfl rfl ?_
      refine sw_iconst (v := 2) (pc' := 435) ok dL_law_434 rfl cc_iconst_2 ?_
      refine sw_iadd (pc' := 436) ok dL_law_435 rfl ?_
      refine sw_sld (pc' := 437) ok oks dL_law_436 rfl (fun v46 => ?_)
      refine sw_cllV_I (st := []) (as := [.int v45, .int v46]) (pc' := 440) ok (S_X7_text p1 v45 v46) (by decide) lk_L_41 rfl dL_law_437 rfl (Nat.le_of_ble_eq_true rfl) rfl (fun v47 => ?_)
      refine sw_aload_n (z := p2) (pc' := 441) ok dL_law_440 rfl rfl ?_
      refine sw_aload_n (z := 0) (pc' := 442) ok dL_law_441 rfl rfl ?_
      refine sw_iload_n (z := q3) (pc' := 443) ok dL_law_442 rfl rfl ?_
      refine sw_iconst (v := 1) (pc' := 444) ok dL_law_443 rfl cc_iconst_1 ?_
      refine sw_iadd (pc' := 445) ok dL_law_444 rfl ?_
      refine sw_sld (pc' := 446) ok oks dL_law_445 rfl (fun v48 => ?_)
      refine sw_aload_n (z := 0) (pc' := 447) ok dL_law_446 rfl rfl ?_
      refine sw_iload_n (z := q3) (pc' := 448) ok dL_law_447 rfl rfl ?_
      refine sw_iconst (v := 2) (pc' := 449) ok dL_law_448 rfl cc_iconst_2 ?_
      refine sw_iadd (pc' := 450) ok dL_law_449 rfl ?_
      refine sw_sld (pc' := 451) ok oks dL_law_450 rfl (fun v49 => ?_)
      refine sw_cllV_I (st := [.int v47]) (as := [.int v48, .int v49]) (pc' := 454) ok (S_X8_text p2 v48 v49) (by decide) lk_L_44 rfl dL_law_451 rfl (Nat.le_of_ble_eq_true rfl) rfl (fun v50 => ?_)
      refine sw_icmp_eq (tgt := 1341) (pc' := 457) ok dL_law_454 (by decide) rfl ?_ ?_
      · exact hk4
      refine sw_iconst (v := 0) (pc' := 458) ok dL_law_457 rfl cc_iconst_0 ?_
      exact sw_retZ ok okr dL_law_458
    · refine sw_aload_n (z := p1) (pc' := 460) ok dL_law_459 rfl rfl ?_
      refine sw_aload_n (z := 0) (pc' := 461) ok dL_law_460 rfl rfl ?_
      refine sw_iload_n (z := q3) (pc' := 462) ok dL_law_461 rfl rfl ?_
      refine sw_iconst (v := 1) (pc' := 463) ok dL_law_462 rfl cc_iconst_1 ?_
      refine sw_iadd (pc' := 464) ok dL_law_463 rfl ?_
      refine sw_sld (pc' := 465) ok oks dL_law_464 rfl (fun v51 => ?_)
      refine sw_aload_n (z := 0) (pc' := 466) ok dL_law_465 rfl rfl ?_
      refine sw_iload_n (z := q3) (pc' := 467) ok dL_law_466 rfl rfl ?_
      refine sw_iconst (v := 2) (pc' := 468) ok dL_law_467 rfl cc_iconst_2 ?_
      refine sw_iadd (pc' := 469) ok dL_law_468 rfl ?_
      refine sw_sld (pc' := 470) ok oks dL_law_469 rfl (fun v52 => ?_)
      refine sw_aload_n (z := 0) (pc' := 471) ok dL_law_470 rfl rfl ?_
      refine sw_iload_n (z := q3) (pc' := 472) ok dL_law_471 rfl rfl ?_
      refine sw_iconst (v := 3) (pc' := 473) ok dL_law_472 rfl cc_iconst_3 ?_
      refine sw_iadd (pc' := 474) ok dL_law_473 rfl ?_
      refine sw_sld (pc' := 475) ok oks dL_law_474 rfl (fun v53 => ?_)
      refine sw_cllV_I (st := []) (as := [.int v51, .int v52, .int v53]) (pc' := 478) ok (S_X7_put p1 v51 v52 v53) (by decide) lk_L_45 rfl dL_law_475 rfl (Nat.le_of_ble_eq_true rfl) rfl (fun v54 => ?_)
      refine sw_aload_n (z := p2) (pc' := 479) ok dL_law_478 rfl rfl ?_
      refine sw_aload_n (z := 0) (pc' := 480) ok dL_law_479 rfl rfl ?_
      refine sw_iload_n (z := q3) (pc' := 481) ok dL_law_480 rfl rfl ?_
      refine sw_iconst (v := 1) (pc' := 482) ok dL_law_481 rfl cc_iconst_1 ?_
      refine sw_iadd (pc' := 483) ok dL_law_482 rfl ?_
      refine sw_sld (pc' := 484) ok oks dL_law_483 rfl (fun v55 => ?_)
      refine sw_aload_n (z := 0) (pc' := 485) ok dL_law_484 rfl rfl ?_
      refine sw_iload_n (z := q3) (pc' := 486) ok dL_law_485 rfl rfl ?_
      refine sw_iconst (v := 2) (pc' := 487) ok dL_law_486 rfl cc_iconst_2 ?_
      refine sw_iadd (pc' := 488) ok dL_law_487 rfl ?_
      refine sw_sld (pc' := 489) ok oks dL_law_488 rfl (fun v56 => ?_)
      refine sw_aload_n (z := 0) (pc' := 490) ok dL_law_489 rfl rfl ?_
      refine sw_iload_n (z := q3) (pc' := 491) ok dL_law_490 rfl rfl ?_
      refine sw_iconst (v := 3) (pc' := 492) ok dL_law_491 rfl cc_iconst_3 ?_
      refine sw_iadd (pc' := 493) ok dL_law_492 rfl ?_
      refine sw_sld (pc' := 494) ok oks dL_law_493 rfl (fun v57 => ?_)
      refine sw_cllV_I (st := [.int v54]) (as := [.int v55, .int v56, .int v57]) (pc' := 497) ok (S_X8_put p2 v55 v56 v57) (by decide) lk_L_48 rfl dL_law_494 rfl (Nat.le_of_ble_eq_true rfl) rfl (fun v58 => ?_)
      refine sw_icmp_eq (tgt := 1341) (pc' := 500) ok dL_law_497 (by decide) rfl ?_ ?_
      · exact hk4
      refine sw_iconst (v := 0) (pc' := 501) ok dL_law_500 rfl cc_iconst_0 ?_
      exact sw_retZ ok okr dL_law_501
    · refine sw_aload_n (z := p1) (pc' := 503) ok dL_law_502 rfl rfl ?_
      refine sw_aload_n (z := 0) (pc' := 504) ok dL_law_503 rfl rfl ?_
      refine sw_iload_n (z := q3) (pc' := 505) ok dL_law_504 rfl rfl ?_
      refine sw_iconst (v := 1) (pc' := 506) ok dL_law_505 rfl cc_iconst_1 ?_
      refine sw_iadd (pc' := 507) ok dL_law_506 rfl ?_
      refine sw_sld (pc' := 508) ok oks dL_law_507 rfl (fun v59 => ?_)
      refine sw_cllV_I (st := []) (as := [.int v59]) (pc' := 511) ok (S_X7_fault p1 v59) (by decide) lk_L_49 rfl dL_law_508 rfl (Nat.le_of_ble_eq_true rfl) rfl (fun v60 => ?_)
      refine sw_aload_n (z := p2) (pc' := 512) ok dL_law_511 rfl rfl ?_
      refine sw_aload_n (z := 0) (pc' := 513) ok dL_law_512 rfl rfl ?_
      refine sw_iload_n (z := q3) (pc' := 514) ok dL_law_513 rfl rfl ?_
      refine sw_iconst (v := 1) (pc' := 515) ok dL_law_514 rfl cc_iconst_1 ?_
      refine sw_iadd (pc' := 516) ok dL_law_515 rfl ?_
      refine sw_sld (pc' := 517) ok oks dL_law_516 rfl (fun v61 => ?_)
      refine sw_cllV_I (st := [.int v60]) (as := [.int v61]) (pc' := 520) ok (S_X8_fault p2 v61) (by decide) lk_L_52 rfl dL_law_517 rfl (Nat.le_of_ble_eq_true rfl) rfl (fun v62 => ?_)
      refine sw_icmp_eq (tgt := 1341) (pc' := 523) ok dL_law_520 (by decide) rfl ?_ ?_
      · exact hk4
      refine sw_iconst (v := 0) (pc' := 524) ok dL_law_523 rfl cc_iconst_0 ?_
      exact sw_retZ ok okr dL_law_524
    · refine sw_aload_n (z := p1) (pc' := 526) ok dL_law_525 rfl rfl ?_
      refine sw_aload_n (z := 0) (pc' := 527) ok dL_law_526 rfl rfl ?_
      refine sw_iload_n (z := q3) (pc' := 528) ok dL_law_527 rfl rfl ?_
      refine sw_iconst (v := 1) (pc' := 529) ok dL_law_528 rfl cc_iconst_1 ?_
      refine sw_iadd (pc' := 530) ok dL_law_529 rfl ?_
      refine sw_sld (pc' := 531) ok oks dL_law_530 rfl (fun v63 => ?_)
      refine sw_cllV_I (st := []) (as := [.int v63]) (pc' := 534) ok (S_X7_bridge p1 v63) (by decide) lk_L_53 rfl dL_law_531 rfl (Nat.le_of_ble_eq_true rfl) rfl (fun v64 => ?_)
      refine sw_aload_n (z := p2) (pc' := 535) ok dL_law_534 rfl rfl ?_
      refine sw_aload_n (z := 0) (pc' := 536) ok dL_law_535 rfl rfl ?_
      refine sw_iload_n (z := q3) (pc' := 537) ok dL_law_536 rfl rfl ?_
      refine sw_iconst (v := 1) (pc' := 538) ok dL_law_537 rfl cc_iconst_1 ?_
      refine sw_iadd (pc' := 539) ok dL_law_538 rfl ?_
      refine sw_sld (pc' := 540) ok oks dL_law_539 rfl (fun v65 => ?_)
      refine sw_cllV_I (st := [.int v64]) (as := [.int v65]) (pc' := 543) ok (S_X8_bridge p2 v65) (by decide) lk_L_56 rfl dL_law_540 rfl (Nat.le_of_ble_eq_true rfl) rfl (fun v66 => ?_)
      refine sw_icmp_eq (tgt := 1341) (pc' := 546) ok dL_law_543 (by decide) rfl ?_ ?_
      · exact hk4
      refine sw_iconst (v := 0) (pc' := 547) ok dL_law_546 rfl cc_iconst_0 ?_
      exact sw_retZ ok okr dL_law_547
    · refine sw_aload_n (z := p1) (pc' := 549) ok dL_law_548 rfl rfl ?_
      refine sw_aload_n (z := 0) (pc' := 550) ok dL_law_549 rfl rfl ?_
      refine sw_iload_n (z := q3) (pc' := 551) ok dL_law_550 rfl rfl ?_
      refine sw_iconst (v := 1) (pc' := 552) ok dL_law_551 rfl cc_iconst_1 ?_
      refine sw_iadd (pc' := 553) ok dL_law_552 rfl ?_
      refine sw_sld (pc' := 554) ok oks dL_law_553 rfl (fun v67 => ?_)
      refine sw_aload_n (z := 0) (pc' := 555) ok dL_law_554 rfl rfl ?_
      refine sw_iload_n (z := q3) (pc' := 556) ok dL_law_555 rfl rfl ?_
      refine sw_iconst (v := 2) (pc' := 557) ok dL_law_556 rfl cc_iconst_2 ?_
      refine sw_iadd (pc' := 558) ok dL_law_557 rfl ?_
      refine sw_sld (pc' := 559) ok oks dL_law_558 rfl (fun v68 => ?_)
      refine sw_cllV_I (st := []) (as := [.int v67, .int v68]) (pc' := 562) ok (S_X7_one p1 v67 v68) (by decide) lk_L_57 rfl dL_law_559 rfl (Nat.le_of_ble_eq_true rfl) rfl (fun v69 => ?_)
      refine sw_aload_n (z := p2) (pc' := 563) ok dL_law_562 rfl rfl ?_
      refine sw_aload_n (z := 0) (pc' := 564) ok dL_law_563 rfl rfl ?_
      refine sw_iload_n (z := q3) (pc' := 565) ok dL_law_564 rfl rfl ?_
      refine sw_iconst (v := 1) (pc' := 566) ok dL_law_565 rfl cc_iconst_1 ?_
      refine sw_iadd (pc' := 567) ok dL_law_566 rfl ?_
      refine sw_sld (pc' := 568) ok oks dL_law_567 rfl (fun v70 => ?_)
      refine sw_aload_n (z := 0) (pc' := 569) ok dL_law_568 rfl rfl ?_
      refine sw_iload_n (z := q3) (pc' := 570) ok dL_law_569 rfl rfl ?_
      refine sw_iconst (v := 2) (pc' := 571) ok dL_law_570 rfl cc_iconst_2 ?_
      refine sw_iadd (pc' := 572) ok dL_law_571 rfl ?_
      refine sw_sld (pc' := 573) ok oks dL_law_572 rfl (fun v71 => ?_)
      refine sw_cllV_I (st := [.int v69]) (as := [.int v70, .int v71]) (pc' := 576) ok (S_X8_one p2 v70 v71) (by decide) lk_L_60 rfl dL_law_573 rfl (Nat.le_of_ble_eq_true rfl) rfl (fun v72 => ?_)
      refine sw_icmp_eq (tgt := 1341) (pc' := 579) ok dL_law_576 (by decide) rfl ?_ ?_
      · exact hk4
      refine sw_iconst (v := 0) (pc' := 580) ok dL_law_579 rfl cc_iconst_0 ?_
      exact sw_retZ ok okr dL_law_580
    · refine sw_aload_n (z := p1) (pc' := 582) ok dL_law_581 rfl rfl ?_
      refine sw_aload_n (z := 0) (pc' := 583) ok dL_law_582 rfl rfl ?_
      refine sw_iload_n (z := q3) (pc' := 584) ok dL_law_583 rfl rfl ?_
      refine sw_iconst (v := 1) (pc' := 585) ok dL_law_584 rfl cc_iconst_1 ?_
      refine sw_iadd (pc' := 586) ok dL_law_585 rfl ?_
      refine sw_sld (pc' := 587) ok oks dL_law_586 rfl (fun v73 => ?_)
      refine sw_aload_n (z := 0) (pc' := 588) ok dL_law_587 rfl rfl ?_
      refine sw_iload_n (z := q3) (pc' := 589) ok dL_law_588 rfl rfl ?_
      refine sw_iconst (v := 2) (pc' := 590) ok dL_law_589 rfl cc_iconst_2 ?_
      refine sw_iadd (pc' := 591) ok dL_law_590 rfl ?_
      refine sw_sld (pc' := 592) ok oks dL_law_591 rfl (fun v74 => ?_)
      refine sw_cllV_I (st := []) (as := [.int v73, .int v74]) (pc' := 595) ok (S_X7_mark p1 v73 v74) (by decide) lk_L_61 rfl dL_law_592 rfl (Nat.le_of_ble_eq_true rfl) rfl (fun v75 => ?_)
      refine sw_aload_n (z := p2) (pc' := 596) ok dL_law_595 rfl rfl ?_
      refine sw_aload_n (z := 0) (pc' := 597) ok dL_law_596 rfl rfl ?_
      refine sw_iload_n (z := q3) (pc' := 598) ok dL_law_597 rfl rfl ?_
      refine sw_iconst (v := 1) (pc' := 599) ok dL_law_598 rfl cc_iconst_1 ?_
      refine sw_iadd (pc' := 600) ok dL_law_599 rfl ?_
      refine sw_sld (pc' := 601) ok oks dL_law_600 rfl (fun v76 => ?_)
      refine sw_aload_n (z := 0) (pc' := 602) ok dL_law_601 rfl rfl ?_
      refine sw_iload_n (z := q3) (pc' := 603) ok dL_law_602 rfl rfl ?_
      refine sw_iconst (v := 2) (pc' := 604) ok dL_law_603 rfl cc_iconst_2 ?_
      refine sw_iadd (pc' := 605) ok dL_law_604 rfl ?_
      refine sw_sld (pc' := 606) ok oks dL_law_605 rfl (fun v77 => ?_)
      refine sw_cllV_I (st := [.int v75]) (as := [.int v76, .int v77]) (pc' := 609) ok (S_X8_mark p2 v76 v77) (by decide) lk_L_64 rfl dL_law_606 rfl (Nat.le_of_ble_eq_true rfl) rfl (fun v78 => ?_)
      refine sw_icmp_eq (tgt := 1341) (pc' := 612) ok dL_law_609 (by decide) rfl ?_ ?_
      · exact hk4
      refine sw_iconst (v := 0) (pc' := 613) ok dL_law_612 rfl cc_iconst_0 ?_
      exact sw_retZ ok okr dL_law_613
    · refine sw_aload_n (z := p1) (pc' := 615) ok dL_law_614 rfl rfl ?_
      refine sw_aload_n (z := 0) (pc' := 616) ok dL_law_615 rfl rfl ?_
      refine sw_iload_n (z := q3) (pc' := 617) ok dL_law_616 rfl rfl ?_
      refine sw_iconst (v := 1) (pc' := 618) ok dL_law_617 rfl cc_iconst_1 ?_
      refine sw_iadd (pc' := 619) ok dL_law_618 rfl ?_
      refine sw_sld (pc' := 620) ok oks dL_law_619 rfl (fun v79 => ?_)
      refine sw_aload_n (z := 0) (pc' := 621) ok dL_law_620 rfl rfl ?_
      refine sw_iload_n (z := q3) (pc' := 622) ok dL_law_621 rfl rfl ?_
      refine sw_iconst (v := 2) (pc' := 623) ok dL_law_622 rfl cc_iconst_2 ?_
      refine sw_iadd (pc' := 624) ok dL_law_623 rfl ?_
      refine sw_sld (pc' := 625) ok oks dL_law_624 rfl (fun v80 => ?_)
      refine sw_cllV_I (st := []) (as := [.int v79, .int v80]) (pc' := 628) ok (S_X7_talk p1 v79 v80) (by decide) lk_L_65 rfl dL_law_625 rfl (Nat.le_of_ble_eq_true rfl) rfl (fun v81 => ?_)
      refine sw_aload_n (z := p2) (pc' := 629) ok dL_law_628 rfl rfl ?_
      refine sw_aload_n (z := 0) (pc' := 630) ok dL_law_629 rfl rfl ?_
      refine sw_iload_n (z := q3) (pc' := 631) ok dL_law_630 rfl rfl ?_
      refine sw_iconst (v := 1) (pc' := 632) ok dL_law_631 rfl cc_iconst_1 ?_
      refine sw_iadd (pc' := 633) ok dL_law_632 rfl ?_
      refine sw_sld (pc' := 634) ok oks dL_law_633 rfl (fun v82 => ?_)
      refine sw_aload_n (z := 0) (pc' := 635) ok dL_law_634 rfl rfl ?_
      refine sw_iload_n (z := q3) (pc' := 636) ok dL_law_635 rfl rfl ?_
      refine sw_iconst (v := 2) (pc' := 637) ok dL_law_636 rfl cc_iconst_2 ?_
      refine sw_iadd (pc' := 638) ok dL_law_637 rfl ?_
      refine sw_sld (pc' := 639) ok oks dL_law_638 rfl (fun v83 => ?_)
      refine sw_cllV_I (st := [.int v81]) (as := [.int v82, .int v83]) (pc' := 642) ok (S_X8_talk p2 v82 v83) (by decide) lk_L_68 rfl dL_law_639 rfl (Nat.le_of_ble_eq_true rfl) rfl (fun v84 => ?_)
      refine sw_icmp_eq (tgt := 1341) (pc' := 645) ok dL_law_642 (by decide) rfl ?_ ?_
      · exact hk4
      refine sw_iconst (v := 0) (pc' := 646) ok dL_law_645 rfl cc_iconst_0 ?_
      exact sw_retZ ok okr dL_law_646
    · refine sw_aload_n (z := p1) (pc' := 648) ok dL_law_647 rfl rfl ?_
      refine sw_aload_n (z := 0) (pc' := 649) ok dL_law_648 rfl rfl ?_
      refine sw_iload_n (z := q3) (pc' := 650) ok dL_law_649 rfl rfl ?_
      refine sw_iconst (v := 1) (pc' := 651) ok dL_law_650 rfl cc_iconst_1 ?_
      refine sw_iadd (pc' := 652) ok dL_law_651 rfl ?_
      refine sw_sld (pc' := 653) ok oks dL_law_652 rfl (fun v85 => ?_)
      refine sw_aload_n (z := 0) (pc' := 654) ok dL_law_653 rfl rfl ?_
      refine sw_iload_n (z := q3) (pc' := 655) ok dL_law_654 rfl rfl ?_
      refine sw_iconst (v := 2) (pc' := 656) ok dL_law_655 rfl cc_iconst_2 ?_
      refine sw_iadd (pc' := 657) ok dL_law_656 rfl ?_
      refine sw_sld (pc' := 658) ok oks dL_law_657 rfl (fun v86 => ?_)
      refine sw_cllV_I (st := []) (as := [.int v85, .int v86]) (pc' := 661) ok (S_X7_watch p1 v85 v86) (by decide) lk_L_69 rfl dL_law_658 rfl (Nat.le_of_ble_eq_true rfl) rfl (fun v87 => ?_)
      refine sw_aload_n (z := p2) (pc' := 662) ok dL_law_661 rfl rfl ?_
      refine sw_aload_n (z := 0) (pc' := 663) ok dL_law_662 rfl rfl ?_
      refine sw_iload_n (z := q3) (pc' := 664) ok dL_law_663 rfl rfl ?_
      refine sw_iconst (v := 1) (pc' := 665) ok dL_law_664 rfl cc_iconst_1 ?_
      refine sw_iadd (pc' := 666) ok dL_law_665 rfl ?_
      refine sw_sld (pc' := 667) ok oks dL_law_666 rfl (fun v88 => ?_)
      refine sw_aload_n (z := 0) (pc' := 668) ok dL_law_667 rfl rfl ?_
      refine sw_iload_n (z := q3) (pc' := 669) ok dL_law_668 rfl rfl ?_
      refine sw_iconst (v := 2) (pc' := 670) ok dL_law_669 rfl cc_iconst_2 ?_
      refine sw_iadd (pc' := 671) ok dL_law_670 rfl ?_
      refine sw_sld (pc' := 672) ok oks dL_law_671 rfl (fun v89 => ?_)
      refine sw_cllV_I (st := [.int v87]) (as := [.int v88, .int v89]) (pc' := 675) ok (S_X8_watch p2 v88 v89) (by decide) lk_L_72 rfl dL_law_672 rfl (Nat.le_of_ble_eq_true rfl) rfl (fun v90 => ?_)
      refine sw_icmp_eq (tgt := 1341) (pc' := 678) ok dL_law_675 (by decide) rfl ?_ ?_
      · exact hk4
      refine sw_iconst (v := 0) (pc' := 679) ok dL_law_678 rfl cc_iconst_0 ?_
      exact sw_retZ ok okr dL_law_679
    · refine sw_aload_n (z := p1) (pc' := 681) ok dL_law_680 rfl rfl ?_
      refine sw_aload_n (z := 0) (pc' := 682) ok dL_law_681 rfl rfl ?_
      refine sw_iload_n (z := q3) (pc' := 683) ok dL_law_682 rfl rfl ?_
      refine sw_iconst (v := 1) (pc' := 684) ok dL_law_683 rfl cc_iconst_1 ?_
      refine sw_iadd (pc' := 685) ok dL_law_684 rfl ?_
      refine sw_sld (pc' := 686) ok oks dL_law_685 rfl (fun v91 => ?_)
      refine sw_cllV_I (st := []) (as := [.int v91]) (pc' := 689) ok (S_X7_load p1 v91) (by decide) lk_L_73 rfl dL_law_686 rfl (Nat.le_of_ble_eq_true rfl) rfl (fun v92 => ?_)
      refine sw_aload_n (z := p2) (pc' := 690) ok dL_law_689 rfl rfl ?_
      refine sw_aload_n (z := 0) (pc' := 691) ok dL_law_690 rfl rfl ?_
      refine sw_iload_n (z := q3) (pc' := 692) ok dL_law_691 rfl rfl ?_
      refine sw_iconst (v := 1) (pc' := 693) ok dL_law_692 rfl cc_iconst_1 ?_
      refine sw_iadd (pc' := 694) ok dL_law_693 rfl ?_
      refine sw_sld (pc' := 695) ok oks dL_law_694 rfl (fun v93 => ?_)
      refine sw_cllV_I (st := [.int v92]) (as := [.int v93]) (pc' := 698) ok (S_X8_load p2 v93) (by decide) lk_L_76 rfl dL_law_695 rfl (Nat.le_of_ble_eq_true rfl) rfl (fun v94 => ?_)
      refine sw_icmp_eq (tgt := 1341) (pc' := 701) ok dL_law_698 (by decide) rfl ?_ ?_
      · exact hk4
      refine sw_iconst (v := 0) (pc' := 702) ok dL_law_701 rfl cc_iconst_0 ?_
      exact sw_retZ ok okr dL_law_702
    · refine sw_aload_n (z := p1) (pc' := 704) ok dL_law_703 rfl rfl ?_
      refine sw_aload_n (z := 0) (pc' := 705) ok dL_law_704 rfl rfl ?_
      refine sw_iload_n (z := q3) (pc' := 706) ok dL_law_705 rfl rfl ?_
      refine sw_iconst (v := 1) (pc' := 707) ok dL_law_706 rfl cc_iconst_1 ?_
      refine sw_iadd (pc' := 708) ok dL_law_707 rfl ?_
      refine sw_sld (pc' := 709) ok oks dL_law_708 rfl (fun v95 => ?_)
      refine sw_cllV_I (st := []) (as := [.int v95]) (pc' := 712) ok (S_X7_coffee p1 v95) (by decide) lk_L_77 rfl dL_law_709 rfl (Nat.le_of_ble_eq_true rfl) rfl (fun v96 => ?_)
      refine sw_aload_n (z := p2) (pc' := 713) ok dL_law_712 rfl rfl ?_
      refine sw_aload_n (z := 0) (pc' := 714) ok dL_law_713 rfl rfl ?_
      refine sw_iload_n (z := q3) (pc' := 715) ok dL_law_714 rfl rfl ?_
      refine sw_iconst (v := 1) (pc' := 716) ok dL_law_715 rfl cc_iconst_1 ?_
      refine sw_iadd (pc' := 717) ok dL_law_716 rfl ?_
      refine sw_sld (pc' := 718) ok oks dL_law_717 rfl (fun v97 => ?_)
      refine sw_cllV_I (st := [.int v96]) (as := [.int v97]) (pc' := 721) ok (S_X8_coffee p2 v97) (by decide) lk_L_80 rfl dL_law_718 rfl (Nat.le_of_ble_eq_true rfl) rfl (fun v98 => ?_)
      refine sw_icmp_eq (tgt := 1341) (pc' := 724) ok dL_law_721 (by decide) rfl ?_ ?_
      · exact hk4
      refine sw_iconst (v := 0) (pc' := 725) ok dL_law_724 rfl cc_iconst_0 ?_
      exact sw_retZ ok okr dL_law_725
    · refine sw_aload_n (z := p1) (pc' := 727) ok dL_law_726 rfl rfl ?_
      refine sw_aload_n (z := 0) (pc' := 728) ok dL_law_727 rfl rfl ?_
      refine sw_iload_n (z := q3) (pc' := 729) ok dL_law_728 rfl rfl ?_
      refine sw_iconst (v := 1) (pc' := 730) ok dL_law_729 rfl cc_iconst_1 ?_
      refine sw_iadd (pc' := 731) ok dL_law_730 rfl ?_
      refine sw_sld (pc' := 732) ok oks dL_law_731 rfl (fun v99 => ?_)
      refine sw_cllV_I (st := []) (as := [.int v99]) (pc' := 735) ok (S_X7_undo p1 v99) (by decide) lk_L_81 rfl dL_law_732 rfl (Nat.le_of_ble_eq_true rfl) rfl (fun v100 => ?_)
      refine sw_aload_n (z := p2) (pc' := 736) ok dL_law_735 rfl rfl ?_
      refine sw_aload_n (z := 0) (pc' := 737) ok dL_law_736 rfl rfl ?_
      refine sw_iload_n (z := q3) (pc' := 738) ok dL_law_737 rfl rfl ?_
      refine sw_iconst (v := 1) (pc' := 739) ok dL_law_738 rfl cc_iconst_1 ?_
      refine sw_iadd (pc' := 740) ok dL_law_739 rfl ?_
      refine sw_sld (pc' := 741) ok oks dL_law_740 rfl (fun v101 => ?_)
      refine sw_cllV_I (st := [.int v100]) (as := [.int v101]) (pc' := 744) ok (S_X8_undo p2 v101) (by decide) lk_L_84 rfl dL_law_741 rfl (Nat.le_of_ble_eq_true rfl) rfl (fun v102 => ?_)
      refine sw_icmp_eq (tgt := 1341) (pc' := 747) ok dL_law_744 (by decide) rfl ?_ ?_
      · exact hk4
      refine sw_iconst (v := 0) (pc' := 748) ok dL_law_747 rfl cc_iconst_0 ?_
      exact sw_retZ ok okr dL_law_748
    · refine sw_aload_n (z := p1) (pc' := 750) ok dL_law_749 rfl rfl ?_
      refine sw_aload_n (z := 0) (pc' := 751) ok dL_law_750 rfl rfl ?_
      refine sw_iload_n (z := q3) (pc' := 752) ok dL_law_751 rfl rfl ?_
      refine sw_iconst (v := 1) (pc' := 753) ok dL_law_752 rfl cc_iconst_1 ?_
      refine sw_iadd (pc' := 754) ok dL_law_753 rfl ?_
      refine sw_sld (pc' := 755) ok oks dL_law_754 rfl (fun v103 => ?_)
      refine sw_cllV_I (st := []) (as := [.int v103]) (pc' := 758) ok (S_X7_keep p1 v103) (by decide) lk_L_85 rfl dL_law_755 rfl (Nat.le_of_ble_eq_true rfl) rfl (fun v104 => ?_)
      refine sw_aload_n (z := p2) (pc' := 759) ok dL_law_758 rfl rfl ?_
      refine sw_aload_n (z := 0) (pc' := 760) ok dL_law_759 rfl rfl ?_
      refine sw_iload_n (z := q3) (pc' := 761) ok dL_law_760 rfl rfl ?_
      refine sw_iconst (v := 1) (pc' := 762) ok dL_law_761 rfl cc_iconst_1 ?_
      refine sw_iadd (pc' := 763) ok dL_law_762 rfl ?_
      refine sw_sld (pc' := 764) ok oks dL_law_763 rfl (fun v105 => ?_)
      refine sw_cllV_I (st := [.int v104]) (as := [.int v105]) (pc' := 767) ok (S_X8_keep p2 v105) (by decide) lk_L_88 rfl dL_law_764 rfl (Nat.le_of_ble_eq_true rfl) rfl (fun v106 => ?_)
      refine sw_icmp_eq (tgt := 1341) (pc' := 770) ok dL_law_767 (by decide) rfl ?_ ?_
      · exact hk4
      refine sw_iconst (v := 0) (pc' := 771) ok dL_law_770 rfl cc_iconst_0 ?_
      exact sw_retZ ok okr dL_law_771
    · refine sw_aload_n (z := p1) (pc' := 773) ok dL_law_772 rfl rfl ?_
      refine sw_aload_n (z := 0) (pc' := 774) ok dL_law_773 rfl rfl ?_
      refine sw_iload_n (z := q3) (pc' := 775) ok dL_law_774 rfl rfl ?_
      refine sw_iconst (v := 1) (pc' := 776) ok dL_law_775 rfl cc_iconst_1 ?_
      refine sw_iadd (pc' := 777) ok dL_law_776 rfl ?_
      refine sw_sld (pc' := 778) ok oks dL_law_777 rfl (fun v107 => ?_)
      refine sw_cllV_I (st := []) (as := [.int v107]) (pc' := 781) ok (S_X7_on p1 v107) (by decide) lk_L_89 rfl dL_law_778 rfl (Nat.le_of_ble_eq_true rfl) rfl (fun v108 => ?_)
      refine sw_aload_n (z := p2) (pc' := 782) ok dL_law_781 rfl rfl ?_
      refine sw_aload_n (z := 0) (pc' := 783) ok dL_law_782 rfl rfl ?_
      refine sw_iload_n (z := q3) (pc' := 784) ok dL_law_783 rfl rfl ?_
      refine sw_iconst (v := 1) (pc' := 785) ok dL_law_784 rfl cc_iconst_1 ?_
      refine sw_iadd (pc' := 786) ok dL_law_785 rfl ?_
      refine sw_sld (pc' := 787) ok oks dL_law_786 rfl (fun v109 => ?_)
      refine sw_cllV_I (st := [.int v108]) (as := [.int v109]) (pc' := 790) ok (S_X8_on p2 v109) (by decide) lk_L_92 rfl dL_law_787 rfl (Nat.le_of_ble_eq_true rfl) rfl (fun v110 => ?_)
      refine sw_icmp_eq (tgt := 1341) (pc' := 793) ok dL_law_790 (by decide) rfl ?_ ?_
      · exact hk4
      refine sw_iconst (v := 0) (pc' := 794) ok dL_law_793 rfl cc_iconst_0 ?_
      exact sw_retZ ok okr dL_law_794
    · refine sw_aload_n (z := p1) (pc' := 796) ok dL_law_795 rfl rfl ?_
      refine sw_aload_n (z := 0) (pc' := 797) ok dL_law_796 rfl rfl ?_
      refine sw_iload_n (z := q3) (pc' := 798) ok dL_law_797 rfl rfl ?_
      refine sw_iconst (v := 1) (pc' := 799) ok dL_law_798 rfl cc_iconst_1 ?_
      refine sw_iadd (pc' := 800) ok dL_law_799 rfl ?_
      refine sw_sld (pc' := 801) ok oks dL_law_800 rfl (fun v111 => ?_)
      refine sw_aload_n (z := 0) (pc' := 802) ok dL_law_801 rfl rfl ?_
      refine sw_iload_n (z := q3) (pc' := 803) ok dL_law_802 rfl rfl ?_
      refine sw_iconst (v := 2) (pc' := 804) ok dL_law_803 rfl cc_iconst_2 ?_
      refine sw_iadd (pc' := 805) ok dL_law_804 rfl ?_
      refine sw_sld (pc' := 806) ok oks dL_law_805 rfl (fun v112 => ?_)
      refine sw_cllV_I (st := []) (as := [.int v111, .int v112]) (pc' := 809) ok (S_X7_best p1 v111 v112) (by decide) lk_L_93 rfl dL_law_806 rfl (Nat.le_of_ble_eq_true rfl) rfl (fun v113 => ?_)
      refine sw_aload_n (z := p2) (pc' := 810) ok dL_law_809 rfl rfl ?_
      refine sw_aload_n (z := 0) (pc' := 811) ok dL_law_810 rfl rfl ?_
      refine sw_iload_n (z := q3) (pc' := 812) ok dL_law_811 rfl rfl ?_
      refine sw_iconst (v := 1) (pc' := 813) ok dL_law_812 rfl cc_iconst_1 ?_
      refine sw_iadd (pc' := 814) ok dL_law_813 rfl ?_
      refine sw_sld (pc' := 815) ok oks dL_law_814 rfl (fun v114 => ?_)
      refine sw_aload_n (z := 0) (pc' := 816) ok dL_law_815 rfl rfl ?_
      refine sw_iload_n (z := q3) (pc' := 817) ok dL_law_816 rfl rfl ?_
      refine sw_iconst (v := 2) (pc' := 818) ok dL_law_817 rfl cc_iconst_2 ?_
      refine sw_iadd (pc' := 819) ok dL_law_818 rfl ?_
      refine sw_sld (pc' := 820) ok oks dL_law_819 rfl (fun v115 => ?_)
      refine sw_cllV_I (st := [.int v113]) (as := [.int v114, .int v115]) (pc' := 823) ok (S_X8_best p2 v114 v115) (by decide) lk_L_96 rfl dL_law_820 rfl (Nat.le_of_ble_eq_true rfl) rfl (fun v116 => ?_)
      refine sw_icmp_eq (tgt := 1341) (pc' := 826) ok dL_law_823 (by decide) rfl ?_ ?_
      · exact hk4
      refine sw_iconst (v := 0) (pc' := 827) ok dL_law_826 rfl cc_iconst_0 ?_
      exact sw_retZ ok okr dL_law_827
    · refine sw_aload_n (z := p1) (pc' := 829) ok dL_law_828 rfl rfl ?_
      refine sw_aload_n (z := 0) (pc' := 830) ok dL_law_829 rfl rfl ?_
      refine sw_iload_n (z := q3) (pc' := 831) ok dL_law_830 rfl rfl ?_
      refine sw_iconst (v := 1) (pc' := 832) ok dL_law_831 rfl cc_iconst_1 ?_
      refine sw_iadd (pc' := 833) ok dL_law_832 rfl ?_
      refine sw_sld (pc' := 834) ok oks dL_law_833 rfl (fun v117 => ?_)
      refine sw_cllV_I (st := []) (as := [.int v117]) (pc' := 837) ok (S_X7_through p1 v117) (by decide) lk_L_97 rfl dL_law_834 rfl (Nat.le_of_ble_eq_true rfl) rfl (fun v118 => ?_)
      refine sw_aload_n (z := p2) (pc' := 838) ok dL_law_837 rfl rfl ?_
      refine sw_aload_n (z := 0) (pc' := 839) ok dL_law_838 rfl rfl ?_
      refine sw_iload_n (z := q3) (pc' := 840) ok dL_law_839 rfl rfl ?_
      refine sw_iconst (v := 1) (pc' := 841) ok dL_law_840 rfl cc_iconst_1 ?_
      refine sw_iadd (pc' := 842) ok dL_law_841 rfl ?_
      refine sw_sld (pc' := 843) ok oks dL_law_842 rfl (fun v119 => ?_)
      refine sw_cllV_I (st := [.int v118]) (as := [.int v119]) (pc' := 846) ok (S_X8_through p2 v119) (by decide) lk_L_100 rfl dL_law_843 rfl (Nat.le_of_ble_eq_true rfl) rfl (fun v120 => ?_)
      refine sw_icmp_eq (tgt := 1341) (pc' := 849) ok dL_law_846 (by decide) rfl ?_ ?_
      · exact hk4
      refine sw_iconst (v := 0) (pc' := 850) ok dL_law_849 rfl cc_iconst_0 ?_
      exact sw_retZ ok okr dL_law_850
    · refine sw_aload_n (z := p1) (pc' := 852) ok dL_law_851 rfl rfl ?_
      refine sw_aload_n (z := 0) (pc' := 853) ok dL_law_852 rfl rfl ?_
      refine sw_iload_n (z := q3) (pc' := 854) ok dL_law_853 rfl rfl ?_
      refine sw_iconst (v := 1) (pc' := 855) ok dL_law_854 rfl cc_iconst_1 ?_
      refine sw_iadd (pc' := 856) ok dL_law_855 rfl ?_
      refine sw_sld (pc' := 857) ok oks dL_law_856 rfl (fun v121 => ?_)
      refine sw_aload_n (z := 0) (pc' := 858) ok dL_law_857 rfl rfl ?_
      refine sw_iload_n (z := q3) (pc' := 859) ok dL_law_858 rfl rfl ?_
      refine sw_iconst (v := 2) (pc' := 860) ok dL_law_859 rfl cc_iconst_2 ?_
      refine sw_iadd (pc' := 861) ok dL_law_860 rfl ?_
      refine sw_sld (pc' := 862) ok oks dL_law_861 rfl (fun v122 => ?_)
      refine sw_cllV_I (st := []) (as := [.int v121, .int v122]) (pc' := 865) ok (S_X7_when p1 v121 v122) (by decide) lk_L_101 rfl dL_law_862 rfl (Nat.le_of_ble_eq_true rfl) rfl (fun v123 => ?_)
      refine sw_aload_n (z := p2) (pc' := 866) ok dL_law_865 rfl rfl ?_
      refine sw_aload_n (z := 0) (pc' := 867) ok dL_law_866 rfl rfl ?_
      refine sw_iload_n (z := q3) (pc' := 868) ok dL_law_867 rfl rfl ?_
      refine sw_iconst (v := 1) (pc' := 869) ok dL_law_868 rfl cc_iconst_1 ?_
      refine sw_iadd (pc' := 870) ok dL_law_869 rfl ?_
      refine sw_sld (pc' := 871) ok oks dL_law_870 rfl (fun v124 => ?_)
      refine sw_aload_n (z := 0) (pc' := 872) ok dL_law_871 rfl rfl ?_
      refine sw_iload_n (z := q3) (pc' := 873) ok dL_law_872 rfl rfl ?_
      refine sw_iconst (v := 2) (pc' := 874) ok dL_law_873 rfl cc_iconst_2 ?_
      refine sw_iadd (pc' := 875) ok dL_law_874 rfl ?_
      refine sw_sld (pc' := 876) ok oks dL_law_875 rfl (fun v125 => ?_)
      refine sw_cllV_I (st := [.int v123]) (as := [.int v124, .int v125]) (pc' := 879) ok (S_X8_when p2 v124 v125) (by decide) lk_L_104 rfl dL_law_876 rfl (Nat.le_of_ble_eq_true rfl) rfl (fun v126 => ?_)
      refine sw_icmp_eq (tgt := 1341) (pc' := 882) ok dL_law_879 (by decide) rfl ?_ ?_
      · exact hk4
      refine sw_iconst (v := 0) (pc' := 883) ok dL_law_882 rfl cc_iconst_0 ?_
      exact sw_retZ ok okr dL_law_883
    · refine sw_aload_n (z := p1) (pc' := 885) ok dL_law_884 rfl rfl ?_
      refine sw_aload_n (z := 0) (pc' := 886) ok dL_law_885 rfl rfl ?_
      refine sw_iload_n (z := q3) (pc' := 887) ok dL_law_886 rfl rfl ?_
      refine sw_iconst (v := 1) (pc' := 888) ok dL_law_887 rfl cc_iconst_1 ?_
      refine sw_iadd (pc' := 889) ok dL_law_888 rfl ?_
      refine sw_sld (pc' := 890) ok oks dL_law_889 rfl (fun v127 => ?_)
      refine sw_cllV_I (st := []) (as := [.int v127]) (pc' := 893) ok (S_X7_bear p1 v127) (by decide) lk_L_105 rfl dL_law_890 rfl (Nat.le_of_ble_eq_true rfl) rfl (fun v128 => ?_)
      refine sw_aload_n (z := p2) (pc' := 894) ok dL_law_893 rfl rfl ?_
      refine sw_aload_n (z := 0) (pc' := 895) ok dL_law_894 rfl rfl ?_
      refine sw_iload_n (z := q3) (pc' := 896) ok dL_law_895 rfl rfl ?_
      refine sw_iconst (v := 1) (pc' := 897) ok dL_law_896 rfl cc_iconst_1 ?_
      refine sw_iadd (pc' := 898) ok dL_law_897 rfl ?_
      refine sw_sld (pc' := 899) ok oks dL_law_898 rfl (fun v129 => ?_)
      refine sw_cllV_I (st := [.int v128]) (as := [.int v129]) (pc' := 902) ok (S_X8_bear p2 v129) (by decide) lk_L_108 rfl dL_law_899 rfl (Nat.le_of_ble_eq_true rfl) rfl (fun v130 => ?_)
      refine sw_icmp_eq (tgt := 1341) (pc' := 905) ok dL_law_902 (by decide) rfl ?_ ?_
      · exact hk4
      refine sw_iconst (v := 0) (pc' := 906) ok dL_law_905 rfl cc_iconst_0 ?_
      exact sw_retZ ok okr dL_law_906
    · refine sw_aload_n (z := p1) (pc' := 908) ok dL_law_907 rfl rfl ?_
      refine sw_aload_n (z := 0) (pc' := 909) ok dL_law_908 rfl rfl ?_
      refine sw_iload_n (z := q3) (pc' := 910) ok dL_law_909 rfl rfl ?_
      refine sw_iconst (v := 1) (pc' := 911) ok dL_law_910 rfl cc_iconst_1 ?_
      refine sw_iadd (pc' := 912) ok dL_law_911 rfl ?_
      refine sw_sld (pc' := 913) ok oks dL_law_912 rfl (fun v131 => ?_)
      refine sw_cllV_I (st := []) (as := [.int v131]) (pc' := 916) ok (S_X7_sagged p1 v131) (by decide) lk_L_109 rfl dL_law_913 rfl (Nat.le_of_ble_eq_true rfl) rfl (fun v132 => ?_)
      refine sw_aload_n (z := p2) (pc' := 917) ok dL_law_916 rfl rfl ?_
      refine sw_aload_n (z := 0) (pc' := 918) ok dL_law_917 rfl rfl ?_
      refine sw_iload_n (z := q3) (pc' := 919) ok dL_law_918 rfl rfl ?_
      refine sw_iconst (v := 1) (pc' := 920) ok dL_law_919 rfl cc_iconst_1 ?_
      refine sw_iadd (pc' := 921) ok dL_law_920 rfl ?_
      refine sw_sld (pc' := 922) ok oks dL_law_921 rfl (fun v133 => ?_)
      refine sw_cllV_I (st := [.int v132]) (as := [.int v133]) (pc' := 925) ok (S_X8_sagged p2 v133) (by decide) lk_L_112 rfl dL_law_922 rfl (Nat.le_of_ble_eq_true rfl) rfl (fun v134 => ?_)
      refine sw_icmp_eq (tgt := 1341) (pc' := 928) ok dL_law_925 (by decide) rfl ?_ ?_
      · exact hk4
      refine sw_iconst (v := 0) (pc' := 929) ok dL_law_928 rfl cc_iconst_0 ?_
      exact sw_retZ ok okr dL_law_929
    · refine sw_aload_n (z := p1) (pc' := 931) ok dL_law_930 rfl rfl ?_
      refine sw_aload_n (z := 0) (pc' := 932) ok dL_law_931 rfl rfl ?_
      refine sw_iload_n (z := q3) (pc' := 933) ok dL_law_932 rfl rfl ?_
      refine sw_iconst (v := 1) (pc' := 934) ok dL_law_933 rfl cc_iconst_1 ?_
      refine sw_iadd (pc' := 935) ok dL_law_934 rfl ?_
      refine sw_sld (pc' := 936) ok oks dL_law_935 rfl (fun v135 => ?_)
      refine sw_cllV_I (st := []) (as := [.int v135]) (pc' := 939) ok (S_X7_sure p1 v135) (by decide) lk_L_113 rfl dL_law_936 rfl (Nat.le_of_ble_eq_true rfl) rfl (fun v136 => ?_)
      refine sw_aload_n (z := p2) (pc' := 940) ok dL_law_939 rfl rfl ?_
      refine sw_aload_n (z := 0) (pc' := 941) ok dL_law_940 rfl rfl ?_
      refine sw_iload_n (z := q3) (pc' := 942) ok dL_law_941 rfl rfl ?_
      refine sw_iconst (v := 1) (pc' := 943) ok dL_law_942 rfl cc_iconst_1 ?_
      refine sw_iadd (pc' := 944) ok dL_law_943 rfl ?_
      refine sw_sld (pc' := 945) ok oks dL_law_944 rfl (fun v137 => ?_)
      refine sw_cllV_I (st := [.int v136]) (as := [.int v137]) (pc' := 948) ok (S_X8_sure p2 v137) (by decide) lk_L_116 rfl dL_law_945 rfl (Nat.le_of_ble_eq_true rfl) rfl (fun v138 => ?_)
      refine sw_icmp_eq (tgt := 1341) (pc' := 951) ok dL_law_948 (by decide) rfl ?_ ?_
      · exact hk4
      refine sw_iconst (v := 0) (pc' := 952) ok dL_law_951 rfl cc_iconst_0 ?_
      exact sw_retZ ok okr dL_law_952
    · refine sw_aload_n (z := p1) (pc' := 954) ok dL_law_953 rfl rfl ?_
      refine sw_aload_n (z := 0) (pc' := 955) ok dL_law_954 rfl rfl ?_
      refine sw_iload_n (z := q3) (pc' := 956) ok dL_law_955 rfl rfl ?_
      refine sw_iconst (v := 1) (pc' := 957) ok dL_law_956 rfl cc_iconst_1 ?_
      refine sw_iadd (pc' := 958) ok dL_law_957 rfl ?_
      refine sw_sld (pc' := 959) ok oks dL_law_958 rfl (fun v139 => ?_)
      refine sw_aload_n (z := 0) (pc' := 960) ok dL_law_959 rfl rfl ?_
      refine sw_iload_n (z := q3) (pc' := 961) ok dL_law_960 rfl rfl ?_
      refine sw_iconst (v := 2) (pc' := 962) ok dL_law_961 rfl cc_iconst_2 ?_
      refine sw_iadd (pc' := 963) ok dL_law_962 rfl ?_
      refine sw_sld (pc' := 964) ok oks dL_law_963 rfl (fun v140 => ?_)
      refine sw_cllV_I (st := []) (as := [.int v139, .int v140]) (pc' := 967) ok (S_X7_lasts p1 v139 v140) (by decide) lk_L_117 rfl dL_law_964 rfl (Nat.le_of_ble_eq_true rfl) rfl (fun v141 => ?_)
      refine sw_aload_n (z := p2) (pc' := 968) ok dL_law_967 rfl rfl ?_
      refine sw_aload_n (z := 0) (pc' := 969) ok dL_law_968 rfl rfl ?_
      refine sw_iload_n (z := q3) (pc' := 970) ok dL_law_969 rfl rfl ?_
      refine sw_iconst (v := 1) (pc' := 971) ok dL_law_970 rfl cc_iconst_1 ?_
      refine sw_iadd (pc' := 972) ok dL_law_971 rfl ?_
      refine sw_sld (pc' := 973) ok oks dL_law_972 rfl (fun v142 => ?_)
      refine sw_aload_n (z := 0) (pc' := 974) ok dL_law_973 rfl rfl ?_
      refine sw_iload_n (z := q3) (pc' := 975) ok dL_law_974 rfl rfl ?_
      refine sw_iconst (v := 2) (pc' := 976) ok dL_law_975 rfl cc_iconst_2 ?_
      refine sw_iadd (pc' := 977) ok dL_law_976 rfl ?_
      refine sw_sld (pc' := 978) ok oks dL_law_977 rfl (fun v143 => ?_)
      refine sw_cllV_I (st := [.int v141]) (as := [.int v142, .int v143]) (pc' := 981) ok (S_X8_lasts p2 v142 v143) (by decide) lk_L_120 rfl dL_law_978 rfl (Nat.le_of_ble_eq_true rfl) rfl (fun v144 => ?_)
      refine sw_icmp_eq (tgt := 1341) (pc' := 984) ok dL_law_981 (by decide) rfl ?_ ?_
      · exact hk4
      refine sw_iconst (v := 0) (pc' := 985) ok dL_law_984 rfl cc_iconst_0 ?_
      exact sw_retZ ok okr dL_law_985
    · refine sw_aload_n (z := p1) (pc' := 987) ok dL_law_986 rfl rfl ?_
      refine sw_aload_n (z := 0) (pc' := 988) ok dL_law_987 rfl rfl ?_
      refine sw_iload_n (z := q3) (pc' := 989) ok dL_law_988 rfl rfl ?_
      refine sw_iconst (v := 1) (pc' := 990) ok dL_law_989 rfl cc_iconst_1 ?_
      refine sw_iadd (pc' := 991) ok dL_law_990 rfl ?_
      refine sw_sld (pc' := 992) ok oks dL_law_991 rfl (fun v145 => ?_)
      refine sw_aload_n (z := 0) (pc' := 993) ok dL_law_992 rfl rfl ?_
      refine sw_iload_n (z := q3) (pc' := 994) ok dL_law_993 rfl rfl ?_
      refine sw_iconst (v := 2) (pc' := 995) ok dL_law_994 rfl cc_iconst_2 ?_
      refine sw_iadd (pc' := 996) ok dL_law_995 rfl ?_
      refine sw_sld (pc' := 997) ok oks dL_law_996 rfl (fun v146 => ?_)
      refine sw_cllV_I (st := []) (as := [.int v145, .int v146]) (pc' := 1000) ok (S_X7_kinds p1 v145 v146) (by decide) lk_L_121 rfl dL_law_997 rfl (Nat.le_of_ble_eq_true rfl) rfl (fun v147 => ?_)
      refine sw_aload_n (z := p2) (pc' := 1001) ok dL_law_1000 rfl rfl ?_
      refine sw_aload_n (z := 0) (pc' := 1002) ok dL_law_1001 rfl rfl ?_
      refine sw_iload_n (z := q3) (pc' := 1003) ok dL_law_1002 rfl rfl ?_
      refine sw_iconst (v := 1) (pc' := 1004) ok dL_law_1003 rfl cc_iconst_1 ?_
      refine sw_iadd (pc' := 1005) ok dL_law_1004 rfl ?_
      refine sw_sld (pc' := 1006) ok oks dL_law_1005 rfl (fun v148 => ?_)
      refine sw_aload_n (z := 0) (pc' := 1007) ok dL_law_1006 rfl rfl ?_
      refine sw_iload_n (z := q3) (pc' := 1008) ok dL_law_1007 rfl rfl ?_
      refine sw_iconst (v := 2) (pc' := 1009) ok dL_law_1008 rfl cc_iconst_2 ?_
      refine sw_iadd (pc' := 1010) ok dL_law_1009 rfl ?_
      refine sw_sld (pc' := 1011) ok oks dL_law_1010 rfl (fun v149 => ?_)
      refine sw_cllV_I (st := [.int v147]) (as := [.int v148, .int v149]) (pc' := 1014) ok (S_X8_kinds p2 v148 v149) (by decide) lk_L_124 rfl dL_law_1011 rfl (Nat.le_of_ble_eq_true rfl) rfl (fun v150 => ?_)
      refine sw_icmp_eq (tgt := 1341) (pc' := 1017) ok dL_law_1014 (by decide) rfl ?_ ?_
      · exact hk4
      refine sw_iconst (v := 0) (pc' := 1018) ok dL_law_1017 rfl cc_iconst_0 ?_
      exact sw_retZ ok okr dL_law_1018
    · refine sw_aload_n (z := p1) (pc' := 1020) ok dL_law_1019 rfl rfl ?_
      refine sw_aload_n (z := 0) (pc' := 1021) ok dL_law_1020 rfl rfl ?_
      refine sw_iload_n (z := q3) (pc' := 1022) ok dL_law_1021 rfl rfl ?_
      refine sw_iconst (v := 1) (pc' := 1023) ok dL_law_1022 rfl cc_iconst_1 ?_
      refine sw_iadd (pc' := 1024) ok dL_law_1023 rfl ?_
      refine sw_sld (pc' := 1025) ok oks dL_law_1024 rfl (fun v151 => ?_)
      refine sw_aload_n (z := 0) (pc' := 1026) ok dL_law_1025 rfl rfl ?_
      refine sw_iload_n (z := q3) (pc' := 1027) ok dL_law_1026 rfl rfl ?_
      refine sw_iconst (v := 2) (pc' := 1028) ok dL_law_1027 rfl cc_iconst_2 ?_
      refine sw_iadd (pc' := 1029) ok dL_law_1028 rfl ?_
      refine sw_sld (pc' := 1030) ok oks dL_law_1029 rfl (fun v152 => ?_)
      refine sw_cllV_I (st := []) (as := [.int v151, .int v152]) (pc' := 1033) ok (S_X7_test p1 v151 v152) (by decide) lk_L_125 rfl dL_law_1030 rfl (Nat.le_of_ble_eq_true rfl) rfl (fun v153 => ?_)
      refine sw_aload_n (z := p2) (pc' := 1034) ok dL_law_1033 rfl rfl ?_
      refine sw_aload_n (z := 0) (pc' := 1035) ok dL_law_1034 rfl rfl ?_
      refine sw_iload_n (z := q3) (pc' := 1036) ok dL_law_1035 rfl rfl ?_
      refine sw_iconst (v := 1) (pc' := 1037) ok dL_law_1036 rfl cc_iconst_1 ?_
      refine sw_iadd (pc' := 1038) ok dL_law_1037 rfl ?_
      refine sw_sld (pc' := 1039) ok oks dL_law_1038 rfl (fun v154 => ?_)
      refine sw_aload_n (z := 0) (pc' := 1040) ok dL_law_1039 rfl rfl ?_
      refine sw_iload_n (z := q3) (pc' := 1041) ok dL_law_1040 rfl rfl ?_
      refine sw_iconst (v := 2) (pc' := 1042) ok dL_law_1041 rfl cc_iconst_2 ?_
      refine sw_iadd (pc' := 1043) ok dL_law_1042 rfl ?_
      refine sw_sld (pc' := 1044) ok oks dL_law_1043 rfl (fun v155 => ?_)
      refine sw_cllV_I (st := [.int v153]) (as := [.int v154, .int v155]) (pc' := 1047) ok (S_X8_test p2 v154 v155) (by decide) lk_L_128 rfl dL_law_1044 rfl (Nat.le_of_ble_eq_true rfl) rfl (fun v156 => ?_)
      refine sw_icmp_eq (tgt := 1341) (pc' := 1050) ok dL_law_1047 (by decide) rfl ?_ ?_
      · exact hk4
      refine sw_iconst (v := 0) (pc' := 1051) ok dL_law_1050 rfl cc_iconst_0 ?_
      exact sw_retZ ok okr dL_law_1051
    · refine sw_aload_n (z := p1) (pc' := 1053) ok dL_law_1052 rfl rfl ?_
      refine sw_aload_n (z := 0) (pc' := 1054) ok dL_law_1053 rfl rfl ?_
      refine sw_iload_n (z := q3) (pc' := 1055) ok dL_law_1054 rfl rfl ?_
      refine sw_iconst (v := 1) (pc' := 1056) ok dL_law_1055 rfl cc_iconst_1 ?_
      refine sw_iadd (pc' := 1057) ok dL_law_1056 rfl ?_
      refine sw_sld (pc' := 1058) ok oks dL_law_1057 rfl (fun v157 => ?_)
      refine sw_cllV_I (st := []) (as := [.int v157]) (pc' := 1061) ok (S_X7_pairs p1 v157) (by decide) lk_L_129 rfl dL_law_1058 rfl (Nat.le_of_ble_eq_true rfl) rfl (fun v158 => ?_)
      refine sw_aload_n (z := p2) (pc' := 1062) ok dL_law_1061 rfl rfl ?_
      refine sw_aload_n (z := 0) (pc' := 1063) ok dL_law_1062 rfl rfl ?_
      refine sw_iload_n (z := q3) (pc' := 1064) ok dL_law_1063 rfl rfl ?_
      refine sw_iconst (v := 1) (pc' := 1065) ok dL_law_1064 rfl cc_iconst_1 ?_
      refine sw_iadd (pc' := 1066) ok dL_law_1065 rfl ?_
      refine sw_sld (pc' := 1067) ok oks dL_law_1066 rfl (fun v159 => ?_)
      refine sw_cllV_I (st := [.int v158]) (as := [.int v159]) (pc' := 1070) ok (S_X8_pairs p2 v159) (by decide) lk_L_132 rfl dL_law_1067 rfl (Nat.le_of_ble_eq_true rfl) rfl (fun v160 => ?_)
      refine sw_icmp_eq (tgt := 1341) (pc' := 1073) ok dL_law_1070 (by decide) rfl ?_ ?_
      · exact hk4
      refine sw_iconst (v := 0) (pc' := 1074) ok dL_law_1073 rfl cc_iconst_0 ?_
      exact sw_retZ ok okr dL_law_1074
    · refine sw_aload_n (z := p1) (pc' := 1076) ok dL_law_1075 rfl rfl ?_
      refine sw_aload_n (z := 0) (pc' := 1077) ok dL_law_1076 rfl rfl ?_
      refine sw_iload_n (z := q3) (pc' := 1078) ok dL_law_1077 rfl rfl ?_
      refine sw_iconst (v := 1) (pc' := 1079) ok dL_law_1078 rfl cc_iconst_1 ?_
      refine sw_iadd (pc' := 1080) ok dL_law_1079 rfl ?_
      refine sw_sld (pc' := 1081) ok oks dL_law_1080 rfl (fun v161 => ?_)
      refine sw_cllV_I (st := []) (as := [.int v161]) (pc' := 1084) ok (S_X7_duel p1 v161) (by decide) lk_L_133 rfl dL_law_1081 rfl (Nat.le_of_ble_eq_true rfl) rfl (fun v162 => ?_)
      refine sw_aload_n (z := p2) (pc' := 1085) ok dL_law_1084 rfl rfl ?_
      refine sw_aload_n (z := 0) (pc' := 1086) ok dL_law_1085 rfl rfl ?_
      refine sw_iload_n (z := q3) (pc' := 1087) ok dL_law_1086 rfl rfl ?_
      refine sw_iconst (v := 1) (pc' := 1088) ok dL_law_1087 rfl cc_iconst_1 ?_
      refine sw_iadd (pc' := 1089) ok dL_law_1088 rfl ?_
      refine sw_sld (pc' := 1090) ok oks dL_law_1089 rfl (fun v163 => ?_)
      refine sw_cllV_I (st := [.int v162]) (as := [.int v163]) (pc' := 1093) ok (S_X8_duel p2 v163) (by decide) lk_L_136 rfl dL_law_1090 rfl (Nat.le_of_ble_eq_true rfl) rfl (fun v164 => ?_)
      refine sw_icmp_eq (tgt := 1341) (pc' := 1096) ok dL_law_1093 (by decide) rfl ?_ ?_
      · exact hk4
      refine sw_iconst (v := 0) (pc' := 1097) ok dL_law_1096 rfl cc_iconst_0 ?_
      exact sw_retZ ok okr dL_law_1097
    · refine sw_aload_n (z := p1) (pc' := 1099) ok dL_law_1098 rfl rfl ?_
      refine sw_aload_n (z := 0) (pc' := 1100) ok dL_law_1099 rfl rfl ?_
      refine sw_iload_n (z := q3) (pc' := 1101) ok dL_law_1100 rfl rfl ?_
      refine sw_iconst (v := 1) (pc' := 1102) ok dL_law_1101 rfl cc_iconst_1 ?_
      refine sw_iadd (pc' := 1103) ok dL_law_1102 rfl ?_
      refine sw_sld (pc' := 1104) ok oks dL_law_1103 rfl (fun v165 => ?_)
      refine sw_aload_n (z := 0) (pc' := 1105) ok dL_law_1104 rfl rfl ?_
      refine sw_iload_n (z := q3) (pc' := 1106) ok dL_law_1105 rfl rfl ?_
      refine sw_iconst (v := 2) (pc' := 1107) ok dL_law_1106 rfl cc_iconst_2 ?_
      refine sw_iadd (pc' := 1108) ok dL_law_1107 rfl ?_
      refine sw_sld (pc' := 1109) ok oks dL_law_1108 rfl (fun v166 => ?_)
      refine sw_aload_n (z := 0) (pc' := 1110) ok dL_law_1109 rfl rfl ?_
      refine sw_iload_n (z := q3) (pc' := 1111) ok dL_law_1110 rfl rfl ?_
      refine sw_iconst (v := 3) (pc' := 1112) ok dL_law_1111 rfl cc_iconst_3 ?_
      refine sw_iadd (pc' := 1113) ok dL_law_1112 rfl ?_
      refine sw_sld (pc' := 1114) ok oks dL_law_1113 rfl (fun v167 => ?_)
      refine sw_aload_n (z := 0) (pc' := 1115) ok dL_law_1114 rfl rfl ?_
      refine sw_iload_n (z := q3) (pc' := 1116) ok dL_law_1115 rfl rfl ?_
      refine sw_iconst (v := 4) (pc' := 1117) ok dL_law_1116 rfl cc_iconst_4 ?_
      refine sw_iadd (pc' := 1118) ok dL_law_1117 rfl ?_
      refine sw_sld (pc' := 1119) ok oks dL_law_1118 rfl (fun v168 => ?_)
      refine sw_cllV_I (st := []) (as := [.int v165, .int v166, .int v167, .int v168]) (pc' := 1122) ok (S_X7_odds p1 v165 v166 v167 v168) (by decide) lk_L_137 rfl dL_law_1119 rfl (Nat.le_of_ble_eq_true rfl) rfl (fun v169 => ?_)
      refine sw_aload_n (z := p2) (pc' := 1123) ok dL_law_1122 rfl rfl ?_
      refine sw_aload_n (z := 0) (pc' := 1124) ok dL_law_1123 rfl rfl ?_
      refine sw_iload_n (z := q3) (pc' := 1125) ok dL_law_1124 rfl rfl ?_
      refine sw_iconst (v := 1) (pc' := 1126) ok dL_law_1125 rfl cc_iconst_1 ?_
      refine sw_iadd (pc' := 1127) ok dL_law_1126 rfl ?_
      refine sw_sld (pc' := 1128) ok oks dL_law_1127 rfl (fun v170 => ?_)
      refine sw_aload_n (z := 0) (pc' := 1129) ok dL_law_1128 rfl rfl ?_
      refine sw_iload_n (z := q3) (pc' := 1130) ok dL_law_1129 rfl rfl ?_
      refine sw_iconst (v := 2) (pc' := 1131) ok dL_law_1130 rfl cc_iconst_2 ?_
      refine sw_iadd (pc' := 1132) ok dL_law_1131 rfl ?_
      refine sw_sld (pc' := 1133) ok oks dL_law_1132 rfl (fun v171 => ?_)
      refine sw_aload_n (z := 0) (pc' := 1134) ok dL_law_1133 rfl rfl ?_
      refine sw_iload_n (z := q3) (pc' := 1135) ok dL_law_1134 rfl rfl ?_
      refine sw_iconst (v := 3) (pc' := 1136) ok dL_law_1135 rfl cc_iconst_3 ?_
      refine sw_iadd (pc' := 1137) ok dL_law_1136 rfl ?_
      refine sw_sld (pc' := 1138) ok oks dL_law_1137 rfl (fun v172 => ?_)
      refine sw_aload_n (z := 0) (pc' := 1139) ok dL_law_1138 rfl rfl ?_
      refine sw_iload_n (z := q3) (pc' := 1140) ok dL_law_1139 rfl rfl ?_
      refine sw_iconst (v := 4) (pc' := 1141) ok dL_law_1140 rfl cc_iconst_4 ?_
      refine sw_iadd (pc' := 1142) ok dL_law_1141 rfl ?_
      refine sw_sld (pc' := 1143) ok oks dL_law_1142 rfl (fun v173 => ?_)
      refine sw_cllV_I (st := [.int v169]) (as := [.int v170, .int v171, .int v172, .int v173]) (pc' := 1146) ok (S_X8_odds p2 v170 v171 v172 v173) (by decide) lk_L_141 rfl dL_law_1143 rfl (Nat.le_of_ble_eq_true rfl) rfl (fun v174 => ?_)
      refine sw_icmp_eq (tgt := 1341) (pc' := 1149) ok dL_law_1146 (by decide) rfl ?_ ?_
      · exact hk4
      refine sw_iconst (v := 0) (pc' := 1150) ok dL_law_1149 rfl cc_iconst_0 ?_
      exact sw_retZ ok okr dL_law_1150
    · refine sw_aload_n (z := p1) (pc' := 1152) ok dL_law_1151 rfl rfl ?_
      refine sw_aload_n (z := 0) (pc' := 1153) ok dL_law_1152 rfl rfl ?_
      refine sw_iload_n (z := q3) (pc' := 1154) ok dL_law_1153 rfl rfl ?_
      refine sw_iconst (v := 1) (pc' := 1155) ok dL_law_1154 rfl cc_iconst_1 ?_
      refine sw_iadd (pc' := 1156) ok dL_law_1155 rfl ?_
      refine sw_sld (pc' := 1157) ok oks dL_law_1156 rfl (fun v175 => ?_)
      refine sw_aload_n (z := 0) (pc' := 1158) ok dL_law_1157 rfl rfl ?_
      refine sw_iload_n (z := q3) (pc' := 1159) ok dL_law_1158 rfl rfl ?_
      refine sw_iconst (v := 2) (pc' := 1160) ok dL_law_1159 rfl cc_iconst_2 ?_
      refine sw_iadd (pc' := 1161) ok dL_law_1160 rfl ?_
      refine sw_sld (pc' := 1162) ok oks dL_law_1161 rfl (fun v176 => ?_)
      refine sw_aload_n (z := 0) (pc' := 1163) ok dL_law_1162 rfl rfl ?_
      refine sw_iload_n (z := q3) (pc' := 1164) ok dL_law_1163 rfl rfl ?_
      refine sw_iconst (v := 3) (pc' := 1165) ok dL_law_1164 rfl cc_iconst_3 ?_
      refine sw_iadd (pc' := 1166) ok dL_law_1165 rfl ?_
      refine sw_sld (pc' := 1167) ok oks dL_law_1166 rfl (fun v177 => ?_)
      refine sw_cllV_I (st := []) (as := [.int v175, .int v176, .int v177]) (pc' := 1170) ok (S_X7_mid p1 v175 v176 v177) (by decide) lk_L_142 rfl dL_law_1167 rfl (Nat.le_of_ble_eq_true rfl) rfl (fun v178 => ?_)
      refine sw_aload_n (z := p2) (pc' := 1171) ok dL_law_1170 rfl rfl ?_
      refine sw_aload_n (z := 0) (pc' := 1172) ok dL_law_1171 rfl rfl ?_
      refine sw_iload_n (z := q3) (pc' := 1173) ok dL_law_1172 rfl rfl ?_
      refine sw_iconst (v := 1) (pc' := 1174) ok dL_law_1173 rfl cc_iconst_1 ?_
      refine sw_iadd (pc' := 1175) ok dL_law_1174 rfl ?_
      refine sw_sld (pc' := 1176) ok oks dL_law_1175 rfl (fun v179 => ?_)
      refine sw_aload_n (z := 0) (pc' := 1177) ok dL_law_1176 rfl rfl ?_
      refine sw_iload_n (z := q3) (pc' := 1178) ok dL_law_1177 rfl rfl ?_
      refine sw_iconst (v := 2) (pc' := 1179) ok dL_law_1178 rfl cc_iconst_2 ?_
      refine sw_iadd (pc' := 1180) ok dL_law_1179 rfl ?_
      refine sw_sld (pc' := 1181) ok oks dL_law_1180 rfl (fun v180 => ?_)
      refine sw_aload_n (z := 0) (pc' := 1182) ok dL_law_1181 rfl rfl ?_
      refine sw_iload_n (z := q3) (pc' := 1183) ok dL_law_1182 rfl rfl ?_
      refine sw_iconst (v := 3) (pc' := 1184) ok dL_law_1183 rfl cc_iconst_3 ?_
      refine sw_iadd (pc' := 1185) ok dL_law_1184 rfl ?_
      refine sw_sld (pc' := 1186) ok oks dL_law_1185 rfl (fun v181 => ?_)
      refine sw_cllV_I (st := [.int v178]) (as := [.int v179, .int v180, .int v181]) (pc' := 1189) ok (S_X8_mid p2 v179 v180 v181) (by decide) lk_L_145 rfl dL_law_1186 rfl (Nat.le_of_ble_eq_true rfl) rfl (fun v182 => ?_)
      refine sw_icmp_eq (tgt := 1341) (pc' := 1192) ok dL_law_1189 (by decide) rfl ?_ ?_
      · exact hk4
      refine sw_iconst (v := 0) (pc' := 1193) ok dL_law_1192 rfl cc_iconst_0 ?_
      exact sw_retZ ok okr dL_law_1193
    · refine sw_aload_n (z := p1) (pc' := 1195) ok dL_law_1194 rfl rfl ?_
      refine sw_aload_n (z := 0) (pc' := 1196) ok dL_law_1195 rfl rfl ?_
      refine sw_iload_n (z := q3) (pc' := 1197) ok dL_law_1196 rfl rfl ?_
      refine sw_iconst (v := 1) (pc' := 1198) ok dL_law_1197 rfl cc_iconst_1 ?_
      refine sw_iadd (pc' := 1199) ok dL_law_1198 rfl ?_
      refine sw_sld (pc' := 1200) ok oks dL_law_1199 rfl (fun v183 => ?_)
      refine sw_aload_n (z := 0) (pc' := 1201) ok dL_law_1200 rfl rfl ?_
      refine sw_iload_n (z := q3) (pc' := 1202) ok dL_law_1201 rfl rfl ?_
      refine sw_iconst (v := 2) (pc' := 1203) ok dL_law_1202 rfl cc_iconst_2 ?_
      refine sw_iadd (pc' := 1204) ok dL_law_1203 rfl ?_
      refine sw_sld (pc' := 1205) ok oks dL_law_1204 rfl (fun v184 => ?_)
      refine sw_cllV_I (st := []) (as := [.int v183, .int v184]) (pc' := 1208) ok (S_X7_lots p1 v183 v184) (by decide) lk_L_146 rfl dL_law_1205 rfl (Nat.le_of_ble_eq_true rfl) rfl (fun v185 => ?_)
      refine sw_aload_n (z := p2) (pc' := 1209) ok dL_law_1208 rfl rfl ?_
      refine sw_aload_n (z := 0) (pc' := 1210) ok dL_law_1209 rfl rfl ?_
      refine sw_iload_n (z := q3) (pc' := 1211) ok dL_law_1210 rfl rfl ?_
      refine sw_iconst (v := 1) (pc' := 1212) ok dL_law_1211 rfl cc_iconst_1 ?_
      refine sw_iadd (pc' := 1213) ok dL_law_1212 rfl ?_
      refine sw_sld (pc' := 1214) ok oks dL_law_1213 rfl (fun v186 => ?_)
      refine sw_aload_n (z := 0) (pc' := 1215) ok dL_law_1214 rfl rfl ?_
      refine sw_iload_n (z := q3) (pc' := 1216) ok dL_law_1215 rfl rfl ?_
      refine sw_iconst (v := 2) (pc' := 1217) ok dL_law_1216 rfl cc_iconst_2 ?_
      refine sw_iadd (pc' := 1218) ok dL_law_1217 rfl ?_
      refine sw_sld (pc' := 1219) ok oks dL_law_1218 rfl (fun v187 => ?_)
      refine sw_cllV_I (st := [.int v185]) (as := [.int v186, .int v187]) (pc' := 1222) ok (S_X8_lots p2 v186 v187) (by decide) lk_L_149 rfl dL_law_1219 rfl (Nat.le_of_ble_eq_true rfl) rfl (fun v188 => ?_)
      refine sw_icmp_eq (tgt := 1341) (pc' := 1225) ok dL_law_1222 (by decide) rfl ?_ ?_
      · exact hk4
      refine sw_iconst (v := 0) (pc' := 1226) ok dL_law_1225 rfl cc_iconst_0 ?_
      exact sw_retZ ok okr dL_law_1226
    · refine sw_aload_n (z := p1) (pc' := 1228) ok dL_law_1227 rfl rfl ?_
      refine sw_cllV_I (st := []) (as := []) (pc' := 1231) ok (S_X7_asked p1) (by decide) lk_L_150 rfl dL_law_1228 rfl (Nat.le_of_ble_eq_true rfl) rfl (fun v189 => ?_)
      refine sw_aload_n (z := p2) (pc' := 1232) ok dL_law_1231 rfl rfl ?_
      refine sw_cllV_I (st := [.int v189]) (as := []) (pc' := 1235) ok (S_X8_asked p2) (by decide) lk_L_154 rfl dL_law_1232 rfl (Nat.le_of_ble_eq_true rfl) rfl (fun v190 => ?_)
      refine sw_icmp_eq (tgt := 1341) (pc' := 1238) ok dL_law_1235 (by decide) rfl ?_ ?_
      · exact hk4
      refine sw_iconst (v := 0) (pc' := 1239) ok dL_law_1238 rfl cc_iconst_0 ?_
      exact sw_retZ ok okr dL_law_1239
    · refine sw_aload_n (z := p1) (pc' := 1241) ok dL_law_1240 rfl rfl ?_
      refine sw_cllV_L (st := []) (as := []) (pc' := 1244) ok (S_X7_upper p1) (by decide) lk_L_155 rfl dL_law_1241 rfl (Nat.le_of_ble_eq_true rfl) rfl (fun v191 => ?_)
      refine sw_aload_n (z := p2) (pc' := 1245) ok dL_law_1244 rfl rfl ?_
      refine sw_cllV_L (st := [.long v191]) (as := []) (pc' := 1248) ok (S_X8_upper p2) (by decide) lk_L_159 rfl dL_law_1245 rfl (Nat.le_of_ble_eq_true rfl) rfl (fun v192 => ?_)
      refine sw_lcmp (pc' := 1249) ok dL_law_1248 rfl ?_
      refine sw_if_eq (tgt := 1341) (pc' := 1252) ok dL_law_1249 (by decide) rfl ?_ ?_
      · exact hk4
      refine sw_iconst (v := 0) (pc' := 1253) ok dL_law_1252 rfl cc_iconst_0 ?_
      exact sw_retZ ok okr dL_law_1253
    · refine sw_aload_n (z := p1) (pc' := 1255) ok dL_law_1254 rfl rfl ?_
      refine sw_cllV_L (st := []) (as := []) (pc' := 1258) ok (S_X7_lower p1) (by decide) lk_L_160 rfl dL_law_1255 rfl (Nat.le_of_ble_eq_true rfl) rfl (fun v193 => ?_)
      refine sw_aload_n (z := p2) (pc' := 1259) ok dL_law_1258 rfl rfl ?_
      refine sw_cllV_L (st := [.long v193]) (as := []) (pc' := 1262) ok (S_X8_lower p2) (by decide) lk_L_163 rfl dL_law_1259 rfl (Nat.le_of_ble_eq_true rfl) rfl (fun v194 => ?_)
      refine sw_lcmp (pc' := 1263) ok dL_law_1262 rfl ?_
      refine sw_if_eq (tgt := 1341) (pc' := 1266) ok dL_law_1263 (by decide) rfl ?_ ?_
      · exact hk4
      refine sw_iconst (v := 0) (pc' := 1267) ok dL_law_1266 rfl cc_iconst_0 ?_
      exact sw_retZ ok okr dL_law_1267
    · refine sw_aload_n (z := p1) (pc' := 1269) ok dL_law_1268 rfl rfl ?_
      refine sw_aload_n (z := 0) (pc' := 1270) ok dL_law_1269 rfl rfl ?_
      refine sw_iload_n (z := q3) (pc' := 1271) ok dL_law_1270 rfl rfl ?_
      refine sw_iconst (v := 1) (pc' := 1272) ok dL_law_1271 rfl cc_iconst_1 ?_
      refine sw_iadd (pc' := 1273) ok dL_law_1272 rfl ?_
      refine sw_sld (pc' := 1274) ok oks dL_law_1273 rfl (fun v195 => ?_)
      refine sw_cllV_I (st := []) (as := [.int v195]) (pc' := 1277) ok (S_X7_count p1 v195) (by decide) lk_L_164 rfl dL_law_1274 rfl (Nat.le_of_ble_eq_true rfl) rfl (fun v196 => ?_)
      refine sw_aload_n (z := p2) (pc' := 1278) ok dL_law_1277 rfl rfl ?_
      refine sw_aload_n (z := 0) (pc' := 1279) ok dL_law_1278 rfl rfl ?_
      refine sw_iload_n (z := q3) (pc' := 1280) ok dL_law_1279 rfl rfl ?_
      refine sw_iconst (v := 1) (pc' := 1281) ok dL_law_1280 rfl cc_iconst_1 ?_
      refine sw_iadd (pc' := 1282) ok dL_law_1281 rfl ?_
      refine sw_sld (pc' := 1283) ok oks dL_law_1282 rfl (fun v197 => ?_)
      refine sw_cllV_I (st := [.int v196]) (as := [.int v197]) (pc' := 1286) ok (S_X8_count p2 v197) (by decide) lk_L_167 rfl dL_law_1283 rfl (Nat.le_of_ble_eq_true rfl) rfl (fun v198 => ?_)
      refine sw_icmp_eq (tgt := 1341) (pc' := 1289) ok dL_law_1286 (by decide) rfl ?_ ?_
      · exact hk4
      refine sw_iconst (v := 0) (pc' := 1290) ok dL_law_1289 rfl cc_iconst_0 ?_
      exact sw_retZ ok okr dL_law_1290
    · refine sw_aload_n (z := p1) (pc' := 1292) ok dL_law_1291 rfl rfl ?_
      refine sw_cllV_I (st := []) (as := []) (pc' := 1295) ok (S_X7_finding p1) (by decide) lk_L_168 rfl dL_law_1292 rfl (Nat.le_of_ble_eq_true rfl) rfl (fun v199 => ?_)
      refine sw_aload_n (z := p2) (pc' := 1296) ok dL_law_1295 rfl rfl ?_
      refine sw_cllV_I (st := [.int v199]) (as := []) (pc' := 1299) ok (S_X8_finding p2) (by decide) lk_L_171 rfl dL_law_1296 rfl (Nat.le_of_ble_eq_true rfl) rfl (fun v200 => ?_)
      refine sw_icmp_eq (tgt := 1341) (pc' := 1302) ok dL_law_1299 (by decide) rfl ?_ ?_
      · exact hk4
      refine sw_iconst (v := 0) (pc' := 1303) ok dL_law_1302 rfl cc_iconst_0 ?_
      exact sw_retZ ok okr dL_law_1303
    · refine sw_aload_n (z := p1) (pc' := 1305) ok dL_law_1304 rfl rfl ?_
      refine sw_aload_n (z := 0) (pc' := 1306) ok dL_law_1305 rfl rfl ?_
      refine sw_iload_n (z := q3) (pc' := 1307) ok dL_law_1306 rfl rfl ?_
      refine sw_iconst (v := 1) (pc' := 1308) ok dL_law_1307 rfl cc_iconst_1 ?_
      refine sw_iadd (pc' := 1309) ok dL_law_1308 rfl ?_
      refine sw_sld (pc' := 1310) ok oks dL_law_1309 rfl (fun v201 => ?_)
      refine sw_cllV_I (st := []) (as := [.int v201]) (pc' := 1313) ok (S_X7_findings p1 v201) (by decide) lk_L_172 rfl dL_law_1310 rfl (Nat.le_of_ble_eq_true rfl) rfl (fun v202 => ?_)
      refine sw_aload_n (z := p2) (pc' := 1314) ok dL_law_1313 rfl rfl ?_
      refine sw_aload_n (z := 0) (pc' := 1315) ok dL_law_1314 rfl rfl ?_
      refine sw_iload_n (z := q3) (pc' := 1316) ok dL_law_1315 rfl rfl ?_
      refine sw_iconst (v := 1) (pc' := 1317) ok dL_law_1316 rfl cc_iconst_1 ?_
      refine sw_iadd (pc' := 1318) ok dL_law_1317 rfl ?_
      refine sw_sld (pc' := 1319) ok oks dL_law_1318 rfl (fun v203 => ?_)
      refine sw_cllV_I (st := [.int v202]) (as := [.int v203]) (pc' := 1322) ok (S_X8_findings p2 v203) (by decide) lk_L_175 rfl dL_law_1319 rfl (Nat.le_of_ble_eq_true rfl) rfl (fun v204 => ?_)
      refine sw_icmp_eq (tgt := 1341) (pc' := 1325) ok dL_law_1322 (by decide) rfl ?_ ?_
      · exact hk4
      refine sw_iconst (v := 0) (pc' := 1326) ok dL_law_1325 rfl cc_iconst_0 ?_
      exact sw_retZ ok okr dL_law_1326
    · refine sw_aload_n (z := p1) (pc' := 1328) ok dL_law_1327 rfl rfl ?_
      refine sw_cllV_L (st := []) (as := []) (pc' := 1331) ok (S_X7_digest p1) (by decide) lk_L_176 rfl dL_law_1328 rfl (Nat.le_of_ble_eq_true rfl) rfl (fun v205 => ?_)
      refine sw_aload_n (z := p2) (pc' := 1332) ok dL_law_1331 rfl rfl ?_
      refine sw_cllV_L (st := [.long v205]) (as := []) (pc' := 1335) ok (S_X8_digest p2) (by decide) lk_L_179 rfl dL_law_1332 rfl (Nat.le_of_ble_eq_true rfl) rfl (fun v206 => ?_)
      refine sw_lcmp (pc' := 1336) ok dL_law_1335 rfl ?_
      refine sw_if_eq (tgt := 1341) (pc' := 1339) ok dL_law_1336 (by decide) rfl ?_ ?_
      · exact hk4
      refine sw_iconst (v := 0) (pc' := 1340) ok dL_law_1339 rfl cc_iconst_0 ?_
      exact sw_retZ ok okr dL_law_1340
    exact hk4
set_option maxHeartbeats 4000000 in
set_option maxRecDepth 100000 in
theorem W_L_law {Γ : Cx} {nm : String} (ok : OKc Γ cL_law RL 17 nm) (okr : OKr Γ cL_law (some .boolean)) {L : Nat} {xs : Nat → Int32} (oks : OKs Γ L xs) : SW Γ iI 0 [some (.ref 0), none, none, none] [] (P_L_law L xs) := by
  unfold P_L_law
  refine sw_newO (T := TX7) (pc' := 3) ok rfl ck_X7 tyX7_ok wd_676 wd_677 wd_266 df_X7 dL_law_0 rfl (fun o1 => ?_)
  refine sw_dup (pc' := 4) ok dL_law_3 rfl rfl ?_
  refine sw_cllA_U (st := [.ref o1]) (as := []) (pc' := 7) ok (S_X7_init o1) (by decide) lk_L_9 rfl dL_law_4 rfl (Nat.le_of_ble_eq_true rfl) rfl (fun _ => ?_)
  refine sw_astore_n (pc' := 8) (l' := [some (.ref 0), some (.ref o1), none, none]) ok dL_law_7 rfl (Nat.le_of_ble_eq_true rfl) rfl ?_
  refine sw_newO (T := TX8) (pc' := 11) ok rfl ck_X8 tyX8_ok wd_680 wd_681 wd_477 df_X8 dL_law_8 rfl (fun o2 => ?_)
  refine sw_dup (pc' := 12) ok dL_law_11 rfl rfl ?_
  refine sw_cllA_U (st := [.ref o2]) (as := []) (pc' := 15) ok (S_X8_init o2) (by decide) lk_L_12 rfl dL_law_12 rfl (Nat.le_of_ble_eq_true rfl) rfl (fun _ => ?_)
  refine sw_astore_n (pc' := 16) (l' := [some (.ref 0), some (.ref o1), some (.ref o2), none]) ok dL_law_15 rfl (Nat.le_of_ble_eq_true rfl) rfl ?_
  refine sw_iconst (v := 0) (pc' := 17) ok dL_law_16 rfl cc_iconst_0 ?_
  refine sw_istore_n (pc' := 18) (l' := [some (.ref 0), some (.ref o1), some (.ref o2), some (.int 0)]) ok dL_law_17 rfl (Nat.le_of_ble_eq_true rfl) rfl ?_
  exact W_L_law_18 ok okr oks o1 o2 4000 0
