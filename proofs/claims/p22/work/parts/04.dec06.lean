theorem dL_law_124 : decode cL_law 124 = .ok (.iadd, 1) := by decide +kernel
theorem dL_law_125 : decode cL_law 125 = .ok (.bipush 20, 2) := by decide +kernel
theorem dL_law_127 : decode cL_law 127 = .ok (.iastore, 1) := by decide +kernel
theorem dL_law_128 : decode cL_law 128 = .ok (.iinc 15 1, 3) := by decide +kernel
theorem dL_law_131 : decode cL_law 131 = .ok (.goto (-44), 3) := by decide +kernel
theorem dL_law_134 : decode cL_law 134 = .ok (.iconst 1, 1) := by decide +kernel
theorem dL_law_135 : decode cL_law 135 = .ok (.istore 15, 2) := by decide +kernel
theorem dL_law_137 : decode cL_law 137 = .ok (.iconst 0, 1) := by decide +kernel
theorem dL_law_138 : decode cL_law 138 = .ok (.istore 16, 2) := by decide +kernel
theorem dL_law_140 : decode cL_law 140 = .ok (.iload 16, 2) := by decide +kernel
theorem dL_law_142 : decode cL_law 142 = .ok (.bipush 60, 2) := by decide +kernel
theorem dL_law_144 : decode cL_law 144 = .ok (.if_icmp .ge 379, 3) := by decide +kernel
theorem dL_law_147 : decode cL_law 147 = .ok (.iload 15, 2) := by decide +kernel
theorem dL_law_149 : decode cL_law 149 = .ok (.ifCond .eq 374, 3) := by decide +kernel
theorem dL_law_152 : decode cL_law 152 = .ok (.aload_n 0, 1) := by decide +kernel
theorem dL_law_153 : decode cL_law 153 = .ok (.iload 16, 2) := by decide +kernel
theorem dL_law_155 : decode cL_law 155 = .ok (.invokestatic 156, 3) := by decide +kernel
theorem dL_law_158 : decode cL_law 158 = .ok (.istore 17, 2) := by decide +kernel
theorem dL_law_160 : decode cL_law 160 = .ok (.iload 16, 2) := by decide +kernel
theorem dL_law_162 : decode cL_law 162 = .ok (.bipush 8, 2) := by decide +kernel
theorem dL_law_164 : decode cL_law 164 = .ok (.if_icmp .ge 13, 3) := by decide +kernel
theorem dL_law_167 : decode cL_law 167 = .ok (.iload 17, 2) := by decide +kernel
theorem dL_law_169 : decode cL_law 169 = .ok (.bipush 18, 2) := by decide +kernel
theorem dL_law_171 : decode cL_law 171 = .ok (.invokestatic 114, 3) := by decide +kernel
theorem dL_law_174 : decode cL_law 174 = .ok (.goto 10, 3) := by decide +kernel
theorem dL_law_177 : decode cL_law 177 = .ok (.iload 17, 2) := by decide +kernel
theorem dL_law_179 : decode cL_law 179 = .ok (.bipush 27, 2) := by decide +kernel
theorem dL_law_181 : decode cL_law 181 = .ok (.invokestatic 114, 3) := by decide +kernel
theorem dL_law_184 : decode cL_law 184 = .ok (.istore 18, 2) := by decide +kernel
theorem dL_law_186 : decode cL_law 186 = .ok (.iload 17, 2) := by decide +kernel
theorem dL_law_188 : decode cL_law 188 = .ok (.iconst 5, 1) := by decide +kernel
theorem dL_law_189 : decode cL_law 189 = .ok (.ishr, 1) := by decide +kernel
theorem dL_law_190 : decode cL_law 190 = .ok (.istore 19, 2) := by decide +kernel
theorem dL_law_192 : decode cL_law 192 = .ok (.iload 18, 2) := by decide +kernel
theorem dL_law_194 : decode cL_law 194 = .ok (.bipush 18, 2) := by decide +kernel
theorem dL_law_196 : decode cL_law 196 = .ok (.if_icmp .ge 129, 3) := by decide +kernel
theorem dL_law_199 : decode cL_law 199 = .ok (.aload_n 1, 1) := by decide +kernel
theorem dL_law_200 : decode cL_law 200 = .ok (.iload 18, 2) := by decide +kernel
theorem dL_law_202 : decode cL_law 202 = .ok (.iconst 2, 1) := by decide +kernel
theorem dL_law_203 : decode cL_law 203 = .ok (.if_icmp .ge 7, 3) := by decide +kernel
theorem dL_law_206 : decode cL_law 206 = .ok (.iconst 0, 1) := by decide +kernel
theorem dL_law_207 : decode cL_law 207 = .ok (.goto 94, 3) := by decide +kernel
theorem dL_law_210 : decode cL_law 210 = .ok (.iload 18, 2) := by decide +kernel
theorem dL_law_212 : decode cL_law 212 = .ok (.iconst 4, 1) := by decide +kernel
theorem dL_law_213 : decode cL_law 213 = .ok (.if_icmp .ge 7, 3) := by decide +kernel
theorem dL_law_216 : decode cL_law 216 = .ok (.iconst 1, 1) := by decide +kernel
theorem dL_law_217 : decode cL_law 217 = .ok (.goto 84, 3) := by decide +kernel
theorem dL_law_220 : decode cL_law 220 = .ok (.iload 18, 2) := by decide +kernel
theorem dL_law_222 : decode cL_law 222 = .ok (.iconst 5, 1) := by decide +kernel
theorem dL_law_223 : decode cL_law 223 = .ok (.if_icmp .ge 7, 3) := by decide +kernel
theorem dL_law_226 : decode cL_law 226 = .ok (.iconst 2, 1) := by decide +kernel
theorem dL_law_227 : decode cL_law 227 = .ok (.goto 74, 3) := by decide +kernel
theorem dL_law_230 : decode cL_law 230 = .ok (.iload 18, 2) := by decide +kernel
theorem dL_law_232 : decode cL_law 232 = .ok (.bipush 9, 2) := by decide +kernel
theorem dL_law_234 : decode cL_law 234 = .ok (.if_icmp .ge 7, 3) := by decide +kernel
theorem dL_law_237 : decode cL_law 237 = .ok (.iconst 3, 1) := by decide +kernel
theorem dL_law_238 : decode cL_law 238 = .ok (.goto 63, 3) := by decide +kernel
theorem dL_law_241 : decode cL_law 241 = .ok (.iload 18, 2) := by decide +kernel
theorem dL_law_243 : decode cL_law 243 = .ok (.bipush 13, 2) := by decide +kernel
theorem dL_law_245 : decode cL_law 245 = .ok (.if_icmp .ge 7, 3) := by decide +kernel
theorem dL_law_248 : decode cL_law 248 = .ok (.iconst 4, 1) := by decide +kernel
theorem dL_law_249 : decode cL_law 249 = .ok (.goto 52, 3) := by decide +kernel
theorem dL_law_252 : decode cL_law 252 = .ok (.iload 18, 2) := by decide +kernel
theorem dL_law_254 : decode cL_law 254 = .ok (.bipush 14, 2) := by decide +kernel
theorem dL_law_256 : decode cL_law 256 = .ok (.if_icmp .ge 7, 3) := by decide +kernel
theorem dL_law_259 : decode cL_law 259 = .ok (.iconst 5, 1) := by decide +kernel
theorem dL_law_260 : decode cL_law 260 = .ok (.goto 41, 3) := by decide +kernel
theorem dL_law_263 : decode cL_law 263 = .ok (.iload 18, 2) := by decide +kernel
theorem dL_law_265 : decode cL_law 265 = .ok (.bipush 15, 2) := by decide +kernel
theorem dL_law_267 : decode cL_law 267 = .ok (.if_icmp .ge 8, 3) := by decide +kernel
theorem dL_law_270 : decode cL_law 270 = .ok (.bipush 6, 2) := by decide +kernel
theorem dL_law_272 : decode cL_law 272 = .ok (.goto 29, 3) := by decide +kernel
theorem dL_law_275 : decode cL_law 275 = .ok (.iload 18, 2) := by decide +kernel
theorem dL_law_277 : decode cL_law 277 = .ok (.bipush 16, 2) := by decide +kernel
theorem dL_law_279 : decode cL_law 279 = .ok (.if_icmp .ge 8, 3) := by decide +kernel
theorem dL_law_282 : decode cL_law 282 = .ok (.bipush 7, 2) := by decide +kernel
theorem dL_law_284 : decode cL_law 284 = .ok (.goto 17, 3) := by decide +kernel
theorem dL_law_287 : decode cL_law 287 = .ok (.iload 18, 2) := by decide +kernel
theorem dL_law_289 : decode cL_law 289 = .ok (.bipush 17, 2) := by decide +kernel
theorem dL_law_291 : decode cL_law 291 = .ok (.if_icmp .ge 8, 3) := by decide +kernel
theorem dL_law_294 : decode cL_law 294 = .ok (.bipush 8, 2) := by decide +kernel
theorem dL_law_296 : decode cL_law 296 = .ok (.goto 5, 3) := by decide +kernel
theorem dL_law_299 : decode cL_law 299 = .ok (.bipush 9, 2) := by decide +kernel
theorem dL_law_301 : decode cL_law 301 = .ok (.iload 19, 2) := by decide +kernel
theorem dL_law_303 : decode cL_law 303 = .ok (.aload_n 2, 1) := by decide +kernel
theorem dL_law_304 : decode cL_law 304 = .ok (.aload_n 3, 1) := by decide +kernel
theorem dL_law_305 : decode cL_law 305 = .ok (.aload 4, 2) := by decide +kernel
theorem dL_law_307 : decode cL_law 307 = .ok (.aload 6, 2) := by decide +kernel
theorem dL_law_309 : decode cL_law 309 = .ok (.aload 7, 2) := by decide +kernel
theorem dL_law_311 : decode cL_law 311 = .ok (.aload 9, 2) := by decide +kernel
theorem dL_law_313 : decode cL_law 313 = .ok (.aload 11, 2) := by decide +kernel
theorem dL_law_315 : decode cL_law 315 = .ok (.aload 14, 2) := by decide +kernel
theorem dL_law_317 : decode cL_law 317 = .ok (.invokestatic 160, 3) := by decide +kernel
theorem dL_law_320 : decode cL_law 320 = .ok (.istore 15, 2) := by decide +kernel
theorem dL_law_322 : decode cL_law 322 = .ok (.goto 149, 3) := by decide +kernel
theorem dL_law_325 : decode cL_law 325 = .ok (.iconst 1, 1) := by decide +kernel
theorem dL_law_326 : decode cL_law 326 = .ok (.iload 19, 2) := by decide +kernel
theorem dL_law_328 : decode cL_law 328 = .ok (.iload 19, 2) := by decide +kernel
theorem dL_law_330 : decode cL_law 330 = .ok (.iconst 4, 1) := by decide +kernel
theorem dL_law_331 : decode cL_law 331 = .ok (.ishr, 1) := by decide +kernel
theorem dL_law_332 : decode cL_law 332 = .ok (.iconst 4, 1) := by decide +kernel
theorem dL_law_333 : decode cL_law 333 = .ok (.invokestatic 114, 3) := by decide +kernel
theorem dL_law_336 : decode cL_law 336 = .ok (.ifCond .ne 8, 3) := by decide +kernel
theorem dL_law_339 : decode cL_law 339 = .ok (.bipush 9, 2) := by decide +kernel
theorem dL_law_341 : decode cL_law 341 = .ok (.goto 4, 3) := by decide +kernel
theorem dL_law_344 : decode cL_law 344 = .ok (.iconst 3, 1) := by decide +kernel
theorem dL_law_345 : decode cL_law 345 = .ok (.invokestatic 114, 3) := by decide +kernel
theorem dL_law_348 : decode cL_law 348 = .ok (.iadd, 1) := by decide +kernel
theorem dL_law_349 : decode cL_law 349 = .ok (.istore 20, 2) := by decide +kernel
theorem dL_law_351 : decode cL_law 351 = .ok (.iload 19, 2) := by decide +kernel
theorem dL_law_353 : decode cL_law 353 = .ok (.iconst 2, 1) := by decide +kernel
theorem dL_law_354 : decode cL_law 354 = .ok (.ishr, 1) := by decide +kernel
theorem dL_law_355 : decode cL_law 355 = .ok (.bipush 12, 2) := by decide +kernel
theorem dL_law_357 : decode cL_law 357 = .ok (.invokestatic 114, 3) := by decide +kernel
theorem dL_law_360 : decode cL_law 360 = .ok (.istore 21, 2) := by decide +kernel
theorem dL_law_362 : decode cL_law 362 = .ok (.aload_n 1, 1) := by decide +kernel
theorem dL_law_363 : decode cL_law 363 = .ok (.iload 20, 2) := by decide +kernel
theorem dL_law_365 : decode cL_law 365 = .ok (.iload 21, 2) := by decide +kernel
theorem dL_law_367 : decode cL_law 367 = .ok (.iconst 2, 1) := by decide +kernel
theorem dL_law_368 : decode cL_law 368 = .ok (.invokevirtual 164, 3) := by decide +kernel
theorem dL_law_371 : decode cL_law 371 = .ok (.lstore 22, 2) := by decide +kernel
theorem dL_law_373 : decode cL_law 373 = .ok (.iconst 0, 1) := by decide +kernel
theorem dL_law_374 : decode cL_law 374 = .ok (.istore 24, 2) := by decide +kernel
theorem dL_law_376 : decode cL_law 376 = .ok (.iload 24, 2) := by decide +kernel
theorem dL_law_378 : decode cL_law 378 = .ok (.iload 20, 2) := by decide +kernel
theorem dL_law_380 : decode cL_law 380 = .ok (.if_icmp .ge 61, 3) := by decide +kernel
theorem dL_law_383 : decode cL_law 383 = .ok (.aload 14, 2) := by decide +kernel
theorem dL_law_385 : decode cL_law 385 = .ok (.iconst 0, 1) := by decide +kernel
theorem dL_law_386 : decode cL_law 386 = .ok (.dup2, 1) := by decide +kernel
theorem dL_law_387 : decode cL_law 387 = .ok (.iaload, 1) := by decide +kernel
theorem dL_law_388 : decode cL_law 388 = .ok (.iconst 1, 1) := by decide +kernel
theorem dL_law_389 : decode cL_law 389 = .ok (.iadd, 1) := by decide +kernel
theorem dL_law_390 : decode cL_law 390 = .ok (.iastore, 1) := by decide +kernel
theorem dL_law_391 : decode cL_law 391 = .ok (.aload_n 2, 1) := by decide +kernel
theorem dL_law_392 : decode cL_law 392 = .ok (.aload_n 3, 1) := by decide +kernel
theorem dL_law_393 : decode cL_law 393 = .ok (.aload 4, 2) := by decide +kernel
theorem dL_law_395 : decode cL_law 395 = .ok (.aload 5, 2) := by decide +kernel
theorem dL_law_397 : decode cL_law 397 = .ok (.aload 7, 2) := by decide +kernel
theorem dL_law_399 : decode cL_law 399 = .ok (.aload 8, 2) := by decide +kernel
theorem dL_law_401 : decode cL_law 401 = .ok (.aload 9, 2) := by decide +kernel
theorem dL_law_403 : decode cL_law 403 = .ok (.aload 10, 2) := by decide +kernel
theorem dL_law_405 : decode cL_law 405 = .ok (.aload 11, 2) := by decide +kernel
theorem dL_law_407 : decode cL_law 407 = .ok (.aload 12, 2) := by decide +kernel
theorem dL_law_409 : decode cL_law 409 = .ok (.aload 14, 2) := by decide +kernel
theorem dL_law_411 : decode cL_law 411 = .ok (.invokestatic 168, 3) := by decide +kernel
theorem dL_law_414 : decode cL_law 414 = .ok (.aload_n 2, 1) := by decide +kernel
theorem dL_law_415 : decode cL_law 415 = .ok (.aload_n 3, 1) := by decide +kernel
theorem dL_law_416 : decode cL_law 416 = .ok (.aload 4, 2) := by decide +kernel
theorem dL_law_418 : decode cL_law 418 = .ok (.aload 5, 2) := by decide +kernel
theorem dL_law_420 : decode cL_law 420 = .ok (.aload 6, 2) := by decide +kernel
theorem dL_law_422 : decode cL_law 422 = .ok (.aload 9, 2) := by decide +kernel
theorem dL_law_424 : decode cL_law 424 = .ok (.aload 10, 2) := by decide +kernel
theorem dL_law_426 : decode cL_law 426 = .ok (.aload 12, 2) := by decide +kernel
theorem dL_law_428 : decode cL_law 428 = .ok (.aload 13, 2) := by decide +kernel
theorem dL_law_430 : decode cL_law 430 = .ok (.aload 14, 2) := by decide +kernel
theorem dL_law_432 : decode cL_law 432 = .ok (.invokestatic 172, 3) := by decide +kernel
theorem dL_law_435 : decode cL_law 435 = .ok (.iinc 24 1, 3) := by decide +kernel
theorem dL_law_438 : decode cL_law 438 = .ok (.goto (-62), 3) := by decide +kernel
theorem dL_law_441 : decode cL_law 441 = .ok (.aload_n 1, 1) := by decide +kernel
theorem dL_law_442 : decode cL_law 442 = .ok (.iload 20, 2) := by decide +kernel
theorem dL_law_444 : decode cL_law 444 = .ok (.invokevirtual 176, 3) := by decide +kernel
theorem dL_law_447 : decode cL_law 447 = .ok (.aload 14, 2) := by decide +kernel
theorem dL_law_449 : decode cL_law 449 = .ok (.iconst 0, 1) := by decide +kernel
theorem dL_law_450 : decode cL_law 450 = .ok (.iaload, 1) := by decide +kernel
theorem dL_law_451 : decode cL_law 451 = .ok (.if_icmp .ne 17, 3) := by decide +kernel
theorem dL_law_454 : decode cL_law 454 = .ok (.lload 22, 2) := by decide +kernel
theorem dL_law_456 : decode cL_law 456 = .ok (.aload_n 3, 1) := by decide +kernel
theorem dL_law_457 : decode cL_law 457 = .ok (.iload 21, 2) := by decide +kernel
theorem dL_law_459 : decode cL_law 459 = .ok (.laload, 1) := by decide +kernel
theorem dL_law_460 : decode cL_law 460 = .ok (.lcmp, 1) := by decide +kernel
theorem dL_law_461 : decode cL_law 461 = .ok (.ifCond .ne 7, 3) := by decide +kernel
theorem dL_law_464 : decode cL_law 464 = .ok (.iconst 1, 1) := by decide +kernel
theorem dL_law_465 : decode cL_law 465 = .ok (.goto 4, 3) := by decide +kernel
theorem dL_law_468 : decode cL_law 468 = .ok (.iconst 0, 1) := by decide +kernel
theorem dL_law_469 : decode cL_law 469 = .ok (.istore 15, 2) := by decide +kernel
theorem dL_law_471 : decode cL_law 471 = .ok (.iload 15, 2) := by decide +kernel
theorem dL_law_473 : decode cL_law 473 = .ok (.ifCond .eq 41, 3) := by decide +kernel
theorem dL_law_476 : decode cL_law 476 = .ok (.aload_n 1, 1) := by decide +kernel
theorem dL_law_477 : decode cL_law 477 = .ok (.iload 19, 2) := by decide +kernel
theorem dL_law_479 : decode cL_law 479 = .ok (.iconst 1, 1) := by decide +kernel
theorem dL_law_480 : decode cL_law 480 = .ok (.ishr, 1) := by decide +kernel
theorem dL_law_481 : decode cL_law 481 = .ok (.ldc 179, 2) := by decide +kernel
theorem dL_law_483 : decode cL_law 483 = .ok (.iand, 1) := by decide +kernel
theorem dL_law_484 : decode cL_law 484 = .ok (.aload_n 2, 1) := by decide +kernel
theorem dL_law_485 : decode cL_law 485 = .ok (.aload_n 3, 1) := by decide +kernel
theorem dL_law_486 : decode cL_law 486 = .ok (.aload 4, 2) := by decide +kernel
theorem dL_law_488 : decode cL_law 488 = .ok (.aload 5, 2) := by decide +kernel
theorem dL_law_490 : decode cL_law 490 = .ok (.aload 7, 2) := by decide +kernel
theorem dL_law_492 : decode cL_law 492 = .ok (.aload 8, 2) := by decide +kernel
theorem dL_law_494 : decode cL_law 494 = .ok (.aload 9, 2) := by decide +kernel
theorem dL_law_496 : decode cL_law 496 = .ok (.aload 10, 2) := by decide +kernel
theorem dL_law_498 : decode cL_law 498 = .ok (.aload 12, 2) := by decide +kernel
theorem dL_law_500 : decode cL_law 500 = .ok (.aload 13, 2) := by decide +kernel
theorem dL_law_502 : decode cL_law 502 = .ok (.aload 14, 2) := by decide +kernel
theorem dL_law_504 : decode cL_law 504 = .ok (.invokestatic 180, 3) := by decide +kernel
theorem dL_law_507 : decode cL_law 507 = .ok (.ifCond .eq 7, 3) := by decide +kernel
theorem dL_law_510 : decode cL_law 510 = .ok (.iconst 1, 1) := by decide +kernel
theorem dL_law_511 : decode cL_law 511 = .ok (.goto 4, 3) := by decide +kernel
theorem dL_law_514 : decode cL_law 514 = .ok (.iconst 0, 1) := by decide +kernel
theorem dL_law_515 : decode cL_law 515 = .ok (.istore 15, 2) := by decide +kernel
theorem dL_law_517 : decode cL_law 517 = .ok (.iinc 16 1, 3) := by decide +kernel
theorem dL_law_520 : decode cL_law 520 = .ok (.goto (-380), 3) := by decide +kernel
theorem dL_law_523 : decode cL_law 523 = .ok (.iload 15, 2) := by decide +kernel
theorem dL_law_525 : decode cL_law 525 = .ok (.ireturn, 1) := by decide +kernel
