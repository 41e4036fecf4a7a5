theorem dX11_init_169 : decode cX11_init 169 = .ok (.bipush 22, 2) := by decide +kernel
theorem dX11_init_171 : decode cX11_init 171 = .ok (.bipush 110, 2) := by decide +kernel
theorem dX11_init_173 : decode cX11_init 173 = .ok (.bastore, 1) := by decide +kernel
theorem dX11_init_174 : decode cX11_init 174 = .ok (.dup, 1) := by decide +kernel
theorem dX11_init_175 : decode cX11_init 175 = .ok (.bipush 23, 2) := by decide +kernel
theorem dX11_init_177 : decode cX11_init 177 = .ok (.bipush 111, 2) := by decide +kernel
theorem dX11_init_179 : decode cX11_init 179 = .ok (.bastore, 1) := by decide +kernel
theorem dX11_init_180 : decode cX11_init 180 = .ok (.dup, 1) := by decide +kernel
theorem dX11_init_181 : decode cX11_init 181 = .ok (.bipush 24, 2) := by decide +kernel
theorem dX11_init_183 : decode cX11_init 183 = .ok (.bipush 116, 2) := by decide +kernel
theorem dX11_init_185 : decode cX11_init 185 = .ok (.bastore, 1) := by decide +kernel
theorem dX11_init_186 : decode cX11_init 186 = .ok (.dup, 1) := by decide +kernel
theorem dX11_init_187 : decode cX11_init 187 = .ok (.bipush 25, 2) := by decide +kernel
theorem dX11_init_189 : decode cX11_init 189 = .ok (.bipush 32, 2) := by decide +kernel
theorem dX11_init_191 : decode cX11_init 191 = .ok (.bastore, 1) := by decide +kernel
theorem dX11_init_192 : decode cX11_init 192 = .ok (.dup, 1) := by decide +kernel
theorem dX11_init_193 : decode cX11_init 193 = .ok (.bipush 26, 2) := by decide +kernel
theorem dX11_init_195 : decode cX11_init 195 = .ok (.bipush 119, 2) := by decide +kernel
theorem dX11_init_197 : decode cX11_init 197 = .ok (.bastore, 1) := by decide +kernel
theorem dX11_init_198 : decode cX11_init 198 = .ok (.dup, 1) := by decide +kernel
theorem dX11_init_199 : decode cX11_init 199 = .ok (.bipush 27, 2) := by decide +kernel
theorem dX11_init_201 : decode cX11_init 201 = .ok (.bipush 104, 2) := by decide +kernel
theorem dX11_init_203 : decode cX11_init 203 = .ok (.bastore, 1) := by decide +kernel
theorem dX11_init_204 : decode cX11_init 204 = .ok (.dup, 1) := by decide +kernel
theorem dX11_init_205 : decode cX11_init 205 = .ok (.bipush 28, 2) := by decide +kernel
theorem dX11_init_207 : decode cX11_init 207 = .ok (.bipush 111, 2) := by decide +kernel
theorem dX11_init_209 : decode cX11_init 209 = .ok (.bastore, 1) := by decide +kernel
theorem dX11_init_210 : decode cX11_init 210 = .ok (.dup, 1) := by decide +kernel
theorem dX11_init_211 : decode cX11_init 211 = .ok (.bipush 29, 2) := by decide +kernel
theorem dX11_init_213 : decode cX11_init 213 = .ok (.bipush 32, 2) := by decide +kernel
theorem dX11_init_215 : decode cX11_init 215 = .ok (.bastore, 1) := by decide +kernel
theorem dX11_init_216 : decode cX11_init 216 = .ok (.dup, 1) := by decide +kernel
theorem dX11_init_217 : decode cX11_init 217 = .ok (.bipush 30, 2) := by decide +kernel
theorem dX11_init_219 : decode cX11_init 219 = .ok (.bipush 98, 2) := by decide +kernel
theorem dX11_init_221 : decode cX11_init 221 = .ok (.bastore, 1) := by decide +kernel
theorem dX11_init_222 : decode cX11_init 222 = .ok (.dup, 1) := by decide +kernel
theorem dX11_init_223 : decode cX11_init 223 = .ok (.bipush 31, 2) := by decide +kernel
theorem dX11_init_225 : decode cX11_init 225 = .ok (.bipush 97, 2) := by decide +kernel
theorem dX11_init_227 : decode cX11_init 227 = .ok (.bastore, 1) := by decide +kernel
theorem dX11_init_228 : decode cX11_init 228 = .ok (.dup, 1) := by decide +kernel
theorem dX11_init_229 : decode cX11_init 229 = .ok (.bipush 32, 2) := by decide +kernel
theorem dX11_init_231 : decode cX11_init 231 = .ok (.bipush 115, 2) := by decide +kernel
theorem dX11_init_233 : decode cX11_init 233 = .ok (.bastore, 1) := by decide +kernel
theorem dX11_init_234 : decode cX11_init 234 = .ok (.dup, 1) := by decide +kernel
theorem dX11_init_235 : decode cX11_init 235 = .ok (.bipush 33, 2) := by decide +kernel
theorem dX11_init_237 : decode cX11_init 237 = .ok (.bipush 101, 2) := by decide +kernel
theorem dX11_init_239 : decode cX11_init 239 = .ok (.bastore, 1) := by decide +kernel
theorem dX11_init_240 : decode cX11_init 240 = .ok (.dup, 1) := by decide +kernel
theorem dX11_init_241 : decode cX11_init 241 = .ok (.bipush 34, 2) := by decide +kernel
theorem dX11_init_243 : decode cX11_init 243 = .ok (.bipush 32, 2) := by decide +kernel
theorem dX11_init_245 : decode cX11_init 245 = .ok (.bastore, 1) := by decide +kernel
theorem dX11_init_246 : decode cX11_init 246 = .ok (.dup, 1) := by decide +kernel
theorem dX11_init_247 : decode cX11_init 247 = .ok (.bipush 35, 2) := by decide +kernel
theorem dX11_init_249 : decode cX11_init 249 = .ok (.bipush 114, 2) := by decide +kernel
theorem dX11_init_251 : decode cX11_init 251 = .ok (.bastore, 1) := by decide +kernel
theorem dX11_init_252 : decode cX11_init 252 = .ok (.dup, 1) := by decide +kernel
theorem dX11_init_253 : decode cX11_init 253 = .ok (.bipush 36, 2) := by decide +kernel
theorem dX11_init_255 : decode cX11_init 255 = .ok (.bipush 97, 2) := by decide +kernel
theorem dX11_init_257 : decode cX11_init 257 = .ok (.bastore, 1) := by decide +kernel
theorem dX11_init_258 : decode cX11_init 258 = .ok (.dup, 1) := by decide +kernel
theorem dX11_init_259 : decode cX11_init 259 = .ok (.bipush 37, 2) := by decide +kernel
theorem dX11_init_261 : decode cX11_init 261 = .ok (.bipush 110, 2) := by decide +kernel
theorem dX11_init_263 : decode cX11_init 263 = .ok (.bastore, 1) := by decide +kernel
theorem dX11_init_264 : decode cX11_init 264 = .ok (.dup, 1) := by decide +kernel
theorem dX11_init_265 : decode cX11_init 265 = .ok (.bipush 38, 2) := by decide +kernel
theorem dX11_init_267 : decode cX11_init 267 = .ok (.bipush 107, 2) := by decide +kernel
theorem dX11_init_269 : decode cX11_init 269 = .ok (.bastore, 1) := by decide +kernel
theorem dX11_init_270 : decode cX11_init 270 = .ok (.dup, 1) := by decide +kernel
theorem dX11_init_271 : decode cX11_init 271 = .ok (.bipush 39, 2) := by decide +kernel
theorem dX11_init_273 : decode cX11_init 273 = .ok (.bipush 32, 2) := by decide +kernel
theorem dX11_init_275 : decode cX11_init 275 = .ok (.bastore, 1) := by decide +kernel
theorem dX11_init_276 : decode cX11_init 276 = .ok (.dup, 1) := by decide +kernel
theorem dX11_init_277 : decode cX11_init 277 = .ok (.bipush 40, 2) := by decide +kernel
theorem dX11_init_279 : decode cX11_init 279 = .ok (.bipush 111, 2) := by decide +kernel
theorem dX11_init_281 : decode cX11_init 281 = .ok (.bastore, 1) := by decide +kernel
theorem dX11_init_282 : decode cX11_init 282 = .ok (.dup, 1) := by decide +kernel
theorem dX11_init_283 : decode cX11_init 283 = .ok (.bipush 41, 2) := by decide +kernel
theorem dX11_init_285 : decode cX11_init 285 = .ok (.bipush 118, 2) := by decide +kernel
theorem dX11_init_287 : decode cX11_init 287 = .ok (.bastore, 1) := by decide +kernel
theorem dX11_init_288 : decode cX11_init 288 = .ok (.dup, 1) := by decide +kernel
theorem dX11_init_289 : decode cX11_init 289 = .ok (.bipush 42, 2) := by decide +kernel
theorem dX11_init_291 : decode cX11_init 291 = .ok (.bipush 101, 2) := by decide +kernel
theorem dX11_init_293 : decode cX11_init 293 = .ok (.bastore, 1) := by decide +kernel
theorem dX11_init_294 : decode cX11_init 294 = .ok (.dup, 1) := by decide +kernel
theorem dX11_init_295 : decode cX11_init 295 = .ok (.bipush 43, 2) := by decide +kernel
theorem dX11_init_297 : decode cX11_init 297 = .ok (.bipush 110, 2) := by decide +kernel
theorem dX11_init_299 : decode cX11_init 299 = .ok (.bastore, 1) := by decide +kernel
theorem dX11_init_300 : decode cX11_init 300 = .ok (.dup, 1) := by decide +kernel
theorem dX11_init_301 : decode cX11_init 301 = .ok (.bipush 44, 2) := by decide +kernel
theorem dX11_init_303 : decode cX11_init 303 = .ok (.bipush 32, 2) := by decide +kernel
theorem dX11_init_305 : decode cX11_init 305 = .ok (.bastore, 1) := by decide +kernel
theorem dX11_init_306 : decode cX11_init 306 = .ok (.dup, 1) := by decide +kernel
theorem dX11_init_307 : decode cX11_init 307 = .ok (.bipush 45, 2) := by decide +kernel
theorem dX11_init_309 : decode cX11_init 309 = .ok (.bipush 104, 2) := by decide +kernel
theorem dX11_init_311 : decode cX11_init 311 = .ok (.bastore, 1) := by decide +kernel
theorem dX11_init_312 : decode cX11_init 312 = .ok (.dup, 1) := by decide +kernel
theorem dX11_init_313 : decode cX11_init 313 = .ok (.bipush 46, 2) := by decide +kernel
theorem dX11_init_315 : decode cX11_init 315 = .ok (.bipush 97, 2) := by decide +kernel
theorem dX11_init_317 : decode cX11_init 317 = .ok (.bastore, 1) := by decide +kernel
theorem dX11_init_318 : decode cX11_init 318 = .ok (.dup, 1) := by decide +kernel
theorem dX11_init_319 : decode cX11_init 319 = .ok (.bipush 47, 2) := by decide +kernel
theorem dX11_init_321 : decode cX11_init 321 = .ok (.bipush 100, 2) := by decide +kernel
theorem dX11_init_323 : decode cX11_init 323 = .ok (.bastore, 1) := by decide +kernel
theorem dX11_init_324 : decode cX11_init 324 = .ok (.dup, 1) := by decide +kernel
theorem dX11_init_325 : decode cX11_init 325 = .ok (.bipush 48, 2) := by decide +kernel
theorem dX11_init_327 : decode cX11_init 327 = .ok (.bipush 32, 2) := by decide +kernel
theorem dX11_init_329 : decode cX11_init 329 = .ok (.bastore, 1) := by decide +kernel
theorem dX11_init_330 : decode cX11_init 330 = .ok (.dup, 1) := by decide +kernel
theorem dX11_init_331 : decode cX11_init 331 = .ok (.bipush 49, 2) := by decide +kernel
theorem dX11_init_333 : decode cX11_init 333 = .ok (.bipush 100, 2) := by decide +kernel
theorem dX11_init_335 : decode cX11_init 335 = .ok (.bastore, 1) := by decide +kernel
theorem dX11_init_336 : decode cX11_init 336 = .ok (.dup, 1) := by decide +kernel
theorem dX11_init_337 : decode cX11_init 337 = .ok (.bipush 50, 2) := by decide +kernel
theorem dX11_init_339 : decode cX11_init 339 = .ok (.bipush 97, 2) := by decide +kernel
theorem dX11_init_341 : decode cX11_init 341 = .ok (.bastore, 1) := by decide +kernel
theorem dX11_init_342 : decode cX11_init 342 = .ok (.dup, 1) := by decide +kernel
theorem dX11_init_343 : decode cX11_init 343 = .ok (.bipush 51, 2) := by decide +kernel
theorem dX11_init_345 : decode cX11_init 345 = .ok (.bipush 121, 2) := by decide +kernel
theorem dX11_init_347 : decode cX11_init 347 = .ok (.bastore, 1) := by decide +kernel
theorem dX11_init_348 : decode cX11_init 348 = .ok (.dup, 1) := by decide +kernel
theorem dX11_init_349 : decode cX11_init 349 = .ok (.bipush 52, 2) := by decide +kernel
theorem dX11_init_351 : decode cX11_init 351 = .ok (.bipush 32, 2) := by decide +kernel
theorem dX11_init_353 : decode cX11_init 353 = .ok (.bastore, 1) := by decide +kernel
theorem dX11_init_354 : decode cX11_init 354 = .ok (.dup, 1) := by decide +kernel
theorem dX11_init_355 : decode cX11_init 355 = .ok (.bipush 53, 2) := by decide +kernel
theorem dX11_init_357 : decode cX11_init 357 = .ok (.bipush 111, 2) := by decide +kernel
theorem dX11_init_359 : decode cX11_init 359 = .ok (.bastore, 1) := by decide +kernel
theorem dX11_init_360 : decode cX11_init 360 = .ok (.dup, 1) := by decide +kernel
theorem dX11_init_361 : decode cX11_init 361 = .ok (.bipush 54, 2) := by decide +kernel
theorem dX11_init_363 : decode cX11_init 363 = .ok (.bipush 116, 2) := by decide +kernel
theorem dX11_init_365 : decode cX11_init 365 = .ok (.bastore, 1) := by decide +kernel
theorem dX11_init_366 : decode cX11_init 366 = .ok (.dup, 1) := by decide +kernel
theorem dX11_init_367 : decode cX11_init 367 = .ok (.bipush 55, 2) := by decide +kernel
theorem dX11_init_369 : decode cX11_init 369 = .ok (.bipush 104, 2) := by decide +kernel
theorem dX11_init_371 : decode cX11_init 371 = .ok (.bastore, 1) := by decide +kernel
theorem dX11_init_372 : decode cX11_init 372 = .ok (.dup, 1) := by decide +kernel
theorem dX11_init_373 : decode cX11_init 373 = .ok (.bipush 56, 2) := by decide +kernel
theorem dX11_init_375 : decode cX11_init 375 = .ok (.bipush 101, 2) := by decide +kernel
theorem dX11_init_377 : decode cX11_init 377 = .ok (.bastore, 1) := by decide +kernel
theorem dX11_init_378 : decode cX11_init 378 = .ok (.dup, 1) := by decide +kernel
theorem dX11_init_379 : decode cX11_init 379 = .ok (.bipush 57, 2) := by decide +kernel
theorem dX11_init_381 : decode cX11_init 381 = .ok (.bipush 114, 2) := by decide +kernel
theorem dX11_init_383 : decode cX11_init 383 = .ok (.bastore, 1) := by decide +kernel
theorem dX11_init_384 : decode cX11_init 384 = .ok (.dup, 1) := by decide +kernel
theorem dX11_init_385 : decode cX11_init 385 = .ok (.bipush 58, 2) := by decide +kernel
theorem dX11_init_387 : decode cX11_init 387 = .ok (.bipush 32, 2) := by decide +kernel
theorem dX11_init_389 : decode cX11_init 389 = .ok (.bastore, 1) := by decide +kernel
theorem dX11_init_390 : decode cX11_init 390 = .ok (.dup, 1) := by decide +kernel
theorem dX11_init_391 : decode cX11_init 391 = .ok (.bipush 59, 2) := by decide +kernel
theorem dX11_init_393 : decode cX11_init 393 = .ok (.bipush 116, 2) := by decide +kernel
theorem dX11_init_395 : decode cX11_init 395 = .ok (.bastore, 1) := by decide +kernel
theorem dX11_init_396 : decode cX11_init 396 = .ok (.dup, 1) := by decide +kernel
theorem dX11_init_397 : decode cX11_init 397 = .ok (.bipush 60, 2) := by decide +kernel
theorem dX11_init_399 : decode cX11_init 399 = .ok (.bipush 104, 2) := by decide +kernel
theorem dX11_init_401 : decode cX11_init 401 = .ok (.bastore, 1) := by decide +kernel
theorem dX11_init_402 : decode cX11_init 402 = .ok (.dup, 1) := by decide +kernel
theorem dX11_init_403 : decode cX11_init 403 = .ok (.bipush 61, 2) := by decide +kernel
theorem dX11_init_405 : decode cX11_init 405 = .ok (.bipush 101, 2) := by decide +kernel
theorem dX11_init_407 : decode cX11_init 407 = .ok (.bastore, 1) := by decide +kernel
theorem dX11_init_408 : decode cX11_init 408 = .ok (.dup, 1) := by decide +kernel
theorem dX11_init_409 : decode cX11_init 409 = .ok (.bipush 62, 2) := by decide +kernel
theorem dX11_init_411 : decode cX11_init 411 = .ok (.bipush 105, 2) := by decide +kernel
theorem dX11_init_413 : decode cX11_init 413 = .ok (.bastore, 1) := by decide +kernel
theorem dX11_init_414 : decode cX11_init 414 = .ok (.dup, 1) := by decide +kernel
theorem dX11_init_415 : decode cX11_init 415 = .ok (.bipush 63, 2) := by decide +kernel
theorem dX11_init_417 : decode cX11_init 417 = .ok (.bipush 114, 2) := by decide +kernel
theorem dX11_init_419 : decode cX11_init 419 = .ok (.bastore, 1) := by decide +kernel
theorem dX11_init_420 : decode cX11_init 420 = .ok (.dup, 1) := by decide +kernel
theorem dX11_init_421 : decode cX11_init 421 = .ok (.bipush 64, 2) := by decide +kernel
theorem dX11_init_423 : decode cX11_init 423 = .ok (.bipush 115, 2) := by decide +kernel
theorem dX11_init_425 : decode cX11_init 425 = .ok (.bastore, 1) := by decide +kernel
theorem dX11_init_426 : decode cX11_init 426 = .ok (.dup, 1) := by decide +kernel
theorem dX11_init_427 : decode cX11_init 427 = .ok (.bipush 65, 2) := by decide +kernel
theorem dX11_init_429 : decode cX11_init 429 = .ok (.bipush 32, 2) := by decide +kernel
theorem dX11_init_431 : decode cX11_init 431 = .ok (.bastore, 1) := by decide +kernel
theorem dX11_init_432 : decode cX11_init 432 = .ok (.putfield 27, 3) := by decide +kernel
theorem dX11_init_435 : decode cX11_init 435 = .ok (.aload_n 0, 1) := by decide +kernel
theorem dX11_init_436 : decode cX11_init 436 = .ok (.sipush 400, 3) := by decide +kernel
theorem dX11_init_439 : decode cX11_init 439 = .ok (.newarray .byte, 2) := by decide +kernel
theorem dX11_init_441 : decode cX11_init 441 = .ok (.putfield 31, 3) := by decide +kernel
theorem dX11_init_444 : decode cX11_init 444 = .ok (.aload_n 0, 1) := by decide +kernel
theorem dX11_init_445 : decode cX11_init 445 = .ok (.iconst 5, 1) := by decide +kernel
theorem dX11_init_446 : decode cX11_init 446 = .ok (.newarray .int, 2) := by decide +kernel
theorem dX11_init_448 : decode cX11_init 448 = .ok (.putfield 34, 3) := by decide +kernel
theorem dX11_init_451 : decode cX11_init 451 = .ok (.aload_n 0, 1) := by decide +kernel
theorem dX11_init_452 : decode cX11_init 452 = .ok (.iconst (-1), 1) := by decide +kernel
theorem dX11_init_453 : decode cX11_init 453 = .ok (.putfield 37, 3) := by decide +kernel
theorem dX11_init_456 : decode cX11_init 456 = .ok (.aload_n 0, 1) := by decide +kernel
theorem dX11_init_457 : decode cX11_init 457 = .ok (.sipush 401, 3) := by decide +kernel
theorem dX11_init_460 : decode cX11_init 460 = .ok (.newarray .int, 2) := by decide +kernel
theorem dX11_init_462 : decode cX11_init 462 = .ok (.putfield 40, 3) := by decide +kernel
theorem dX11_init_465 : decode cX11_init 465 = .ok (.aload_n 0, 1) := by decide +kernel
theorem dX11_init_466 : decode cX11_init 466 = .ok (.sipush 401, 3) := by decide +kernel
theorem dX11_init_469 : decode cX11_init 469 = .ok (.newarray .int, 2) := by decide +kernel
theorem dX11_init_471 : decode cX11_init 471 = .ok (.putfield 43, 3) := by decide +kernel
theorem dX11_init_474 : decode cX11_init 474 = .ok (.aload_n 0, 1) := by decide +kernel
theorem dX11_init_475 : decode cX11_init 475 = .ok (.sipush 401, 3) := by decide +kernel
theorem dX11_init_478 : decode cX11_init 478 = .ok (.newarray .int, 2) := by decide +kernel
theorem dX11_init_480 : decode cX11_init 480 = .ok (.putfield 46, 3) := by decide +kernel
theorem dX11_init_483 : decode cX11_init 483 = .ok (.aload_n 0, 1) := by decide +kernel
theorem dX11_init_484 : decode cX11_init 484 = .ok (.bipush 8, 2) := by decide +kernel
theorem dX11_init_486 : decode cX11_init 486 = .ok (.newarray .int, 2) := by decide +kernel
theorem dX11_init_488 : decode cX11_init 488 = .ok (.putfield 49, 3) := by decide +kernel
theorem dX11_init_491 : decode cX11_init 491 = .ok (.aload_n 0, 1) := by decide +kernel
theorem dX11_init_492 : decode cX11_init 492 = .ok (.bipush 8, 2) := by decide +kernel
theorem dX11_init_494 : decode cX11_init 494 = .ok (.newarray .int, 2) := by decide +kernel
theorem dX11_init_496 : decode cX11_init 496 = .ok (.putfield 52, 3) := by decide +kernel
theorem dX11_init_499 : decode cX11_init 499 = .ok (.aload_n 0, 1) := by decide +kernel
theorem dX11_init_500 : decode cX11_init 500 = .ok (.bipush 8, 2) := by decide +kernel
theorem dX11_init_502 : decode cX11_init 502 = .ok (.newarray .int, 2) := by decide +kernel
theorem dX11_init_504 : decode cX11_init 504 = .ok (.putfield 55, 3) := by decide +kernel
theorem dX11_init_507 : decode cX11_init 507 = .ok (.aload_n 0, 1) := by decide +kernel
theorem dX11_init_508 : decode cX11_init 508 = .ok (.iconst 2, 1) := by decide +kernel
theorem dX11_init_509 : decode cX11_init 509 = .ok (.newarray .int, 2) := by decide +kernel
theorem dX11_init_511 : decode cX11_init 511 = .ok (.putfield 58, 3) := by decide +kernel
theorem dX11_init_514 : decode cX11_init 514 = .ok (.aload_n 0, 1) := by decide +kernel
theorem dX11_init_515 : decode cX11_init 515 = .ok (.bipush 8, 2) := by decide +kernel
theorem dX11_init_517 : decode cX11_init 517 = .ok (.newarray .int, 2) := by decide +kernel
theorem dX11_init_519 : decode cX11_init 519 = .ok (.putfield 61, 3) := by decide +kernel
theorem dX11_init_522 : decode cX11_init 522 = .ok (.aload_n 0, 1) := by decide +kernel
theorem dX11_init_523 : decode cX11_init 523 = .ok (.sipush 256, 3) := by decide +kernel
theorem dX11_init_526 : decode cX11_init 526 = .ok (.newarray .int, 2) := by decide +kernel
theorem dX11_init_528 : decode cX11_init 528 = .ok (.putfield 64, 3) := by decide +kernel
theorem dX11_init_531 : decode cX11_init 531 = .ok (.aload_n 0, 1) := by decide +kernel
theorem dX11_init_532 : decode cX11_init 532 = .ok (.sipush 256, 3) := by decide +kernel
theorem dX11_init_535 : decode cX11_init 535 = .ok (.newarray .int, 2) := by decide +kernel
theorem dX11_init_537 : decode cX11_init 537 = .ok (.putfield 67, 3) := by decide +kernel
theorem dX11_init_540 : decode cX11_init 540 = .ok (.aload_n 0, 1) := by decide +kernel
theorem dX11_init_541 : decode cX11_init 541 = .ok (.sipush 256, 3) := by decide +kernel
theorem dX11_init_544 : decode cX11_init 544 = .ok (.newarray .int, 2) := by decide +kernel
theorem dX11_init_546 : decode cX11_init 546 = .ok (.putfield 70, 3) := by decide +kernel
theorem dX11_init_549 : decode cX11_init 549 = .ok (.aload_n 0, 1) := by decide +kernel
theorem dX11_init_550 : decode cX11_init 550 = .ok (.sipush 256, 3) := by decide +kernel
theorem dX11_init_553 : decode cX11_init 553 = .ok (.newarray .int, 2) := by decide +kernel
theorem dX11_init_555 : decode cX11_init 555 = .ok (.putfield 73, 3) := by decide +kernel
theorem dX11_init_558 : decode cX11_init 558 = .ok (.aload_n 0, 1) := by decide +kernel
theorem dX11_init_559 : decode cX11_init 559 = .ok (.bipush 8, 2) := by decide +kernel
theorem dX11_init_561 : decode cX11_init 561 = .ok (.newarray .int, 2) := by decide +kernel
theorem dX11_init_563 : decode cX11_init 563 = .ok (.putfield 76, 3) := by decide +kernel
theorem dX11_init_566 : decode cX11_init 566 = .ok (.aload_n 0, 1) := by decide +kernel
theorem dX11_init_567 : decode cX11_init 567 = .ok (.sipush 7680, 3) := by decide +kernel
theorem dX11_init_570 : decode cX11_init 570 = .ok (.newarray .boolean, 2) := by decide +kernel
theorem dX11_init_572 : decode cX11_init 572 = .ok (.putfield 79, 3) := by decide +kernel
theorem dX11_init_575 : decode cX11_init 575 = .ok (.aload_n 0, 1) := by decide +kernel
theorem dX11_init_576 : decode cX11_init 576 = .ok (.ldc 82, 2) := by decide +kernel
theorem dX11_init_578 : decode cX11_init 578 = .ok (.newarray .boolean, 2) := by decide +kernel
theorem dX11_init_580 : decode cX11_init 580 = .ok (.putfield 83, 3) := by decide +kernel
theorem dX11_init_583 : decode cX11_init 583 = .ok (.aload_n 0, 1) := by decide +kernel
theorem dX11_init_584 : decode cX11_init 584 = .ok (.sipush 7936, 3) := by decide +kernel
theorem dX11_init_587 : decode cX11_init 587 = .ok (.newarray .boolean, 2) := by decide +kernel
theorem dX11_init_589 : decode cX11_init 589 = .ok (.putfield 86, 3) := by decide +kernel
theorem dX11_init_592 : decode cX11_init 592 = .ok (.aload_n 0, 1) := by decide +kernel
theorem dX11_init_593 : decode cX11_init 593 = .ok (.sipush 7936, 3) := by decide +kernel
theorem dX11_init_596 : decode cX11_init 596 = .ok (.newarray .boolean, 2) := by decide +kernel
theorem dX11_init_598 : decode cX11_init 598 = .ok (.putfield 89, 3) := by decide +kernel
theorem dX11_init_601 : decode cX11_init 601 = .ok (.aload_n 0, 1) := by decide +kernel
theorem dX11_init_602 : decode cX11_init 602 = .ok (.bipush 8, 2) := by decide +kernel
theorem dX11_init_604 : decode cX11_init 604 = .ok (.newarray .int, 2) := by decide +kernel
theorem dX11_init_606 : decode cX11_init 606 = .ok (.putfield 92, 3) := by decide +kernel
theorem dX11_init_609 : decode cX11_init 609 = .ok (.aload_n 0, 1) := by decide +kernel
theorem dX11_init_610 : decode cX11_init 610 = .ok (.bipush 8, 2) := by decide +kernel
theorem dX11_init_612 : decode cX11_init 612 = .ok (.newarray .int, 2) := by decide +kernel
theorem dX11_init_614 : decode cX11_init 614 = .ok (.putfield 95, 3) := by decide +kernel
theorem dX11_init_617 : decode cX11_init 617 = .ok (.aload_n 0, 1) := by decide +kernel
theorem dX11_init_618 : decode cX11_init 618 = .ok (.bipush 8, 2) := by decide +kernel
theorem dX11_init_620 : decode cX11_init 620 = .ok (.newarray .int, 2) := by decide +kernel
theorem dX11_init_622 : decode cX11_init 622 = .ok (.putfield 98, 3) := by decide +kernel
theorem dX11_init_625 : decode cX11_init 625 = .ok (.aload_n 0, 1) := by decide +kernel
theorem dX11_init_626 : decode cX11_init 626 = .ok (.bipush 8, 2) := by decide +kernel
theorem dX11_init_628 : decode cX11_init 628 = .ok (.newarray .int, 2) := by decide +kernel
theorem dX11_init_630 : decode cX11_init 630 = .ok (.putfield 101, 3) := by decide +kernel
theorem dX11_init_633 : decode cX11_init 633 = .ok (.aload_n 0, 1) := by decide +kernel
theorem dX11_init_634 : decode cX11_init 634 = .ok (.bipush 8, 2) := by decide +kernel
theorem dX11_init_636 : decode cX11_init 636 = .ok (.newarray .int, 2) := by decide +kernel
theorem dX11_init_638 : decode cX11_init 638 = .ok (.putfield 104, 3) := by decide +kernel
theorem dX11_init_641 : decode cX11_init 641 = .ok (.aload_n 0, 1) := by decide +kernel
theorem dX11_init_642 : decode cX11_init 642 = .ok (.bipush 8, 2) := by decide +kernel
theorem dX11_init_644 : decode cX11_init 644 = .ok (.newarray .int, 2) := by decide +kernel
theorem dX11_init_646 : decode cX11_init 646 = .ok (.putfield 107, 3) := by decide +kernel
theorem dX11_init_649 : decode cX11_init 649 = .ok (.aload_n 0, 1) := by decide +kernel
theorem dX11_init_650 : decode cX11_init 650 = .ok (.getfield 17, 3) := by decide +kernel
theorem dX11_init_653 : decode cX11_init 653 = .ok (.bipush 40, 2) := by decide +kernel
theorem dX11_init_655 : decode cX11_init 655 = .ok (.bipush 13, 2) := by decide +kernel
theorem dX11_init_657 : decode cX11_init 657 = .ok (.iastore, 1) := by decide +kernel
theorem dX11_init_658 : decode cX11_init 658 = .ok (.aload_n 0, 1) := by decide +kernel
theorem dX11_init_659 : decode cX11_init 659 = .ok (.getfield 17, 3) := by decide +kernel
theorem dX11_init_662 : decode cX11_init 662 = .ok (.bipush 81, 2) := by decide +kernel
theorem dX11_init_664 : decode cX11_init 664 = .ok (.iconst (-1), 1) := by decide +kernel
theorem dX11_init_665 : decode cX11_init 665 = .ok (.iastore, 1) := by decide +kernel
theorem dX11_init_666 : decode cX11_init 666 = .ok (.return_, 1) := by decide +kernel
theorem dX11_image_0 : decode cX11_image 0 = .ok (.iload_n 1, 1) := by decide +kernel
theorem dX11_image_1 : decode cX11_image 1 = .ok (.iconst 0, 1) := by decide +kernel
theorem dX11_image_2 : decode cX11_image 2 = .ok (.iconst 1, 1) := by decide +kernel
theorem dX11_image_3 : decode cX11_image 3 = .ok (.invokestatic 110, 3) := by decide +kernel
theorem dX11_image_6 : decode cX11_image 6 = .ok (.ifCond .ne 9, 3) := by decide +kernel
theorem dX11_image_9 : decode cX11_image 9 = .ok (.aload_n 0, 1) := by decide +kernel
theorem dX11_image_10 : decode cX11_image 10 = .ok (.iconst (-1), 1) := by decide +kernel
theorem dX11_image_11 : decode cX11_image 11 = .ok (.invokevirtual 114, 3) := by decide +kernel
theorem dX11_image_14 : decode cX11_image 14 = .ok (.ireturn, 1) := by decide +kernel
theorem dX11_image_15 : decode cX11_image 15 = .ok (.iconst 0, 1) := by decide +kernel
theorem dX11_image_16 : decode cX11_image 16 = .ok (.istore_n 2, 1) := by decide +kernel
theorem dX11_image_17 : decode cX11_image 17 = .ok (.iload_n 2, 1) := by decide +kernel
theorem dX11_image_18 : decode cX11_image 18 = .ok (.sipush 4888, 3) := by decide +kernel
theorem dX11_image_21 : decode cX11_image 21 = .ok (.if_icmp .ge 27, 3) := by decide +kernel
theorem dX11_image_24 : decode cX11_image 24 = .ok (.aload_n 0, 1) := by decide +kernel
theorem dX11_image_25 : decode cX11_image 25 = .ok (.getfield 20, 3) := by decide +kernel
theorem dX11_image_28 : decode cX11_image 28 = .ok (.sipush 4888, 3) := by decide +kernel
theorem dX11_image_31 : decode cX11_image 31 = .ok (.iload_n 1, 1) := by decide +kernel
theorem dX11_image_32 : decode cX11_image 32 = .ok (.imul, 1) := by decide +kernel
theorem dX11_image_33 : decode cX11_image 33 = .ok (.iload_n 2, 1) := by decide +kernel
theorem dX11_image_34 : decode cX11_image 34 = .ok (.iadd, 1) := by decide +kernel
theorem dX11_image_35 : decode cX11_image 35 = .ok (.aload_n 0, 1) := by decide +kernel
theorem dX11_image_36 : decode cX11_image 36 = .ok (.getfield 17, 3) := by decide +kernel
theorem dX11_image_39 : decode cX11_image 39 = .ok (.iload_n 2, 1) := by decide +kernel
theorem dX11_image_40 : decode cX11_image 40 = .ok (.iaload, 1) := by decide +kernel
theorem dX11_image_41 : decode cX11_image 41 = .ok (.iastore, 1) := by decide +kernel
theorem dX11_image_42 : decode cX11_image 42 = .ok (.iinc 2 1, 3) := by decide +kernel
theorem dX11_image_45 : decode cX11_image 45 = .ok (.goto (-28), 3) := by decide +kernel
theorem dX11_image_48 : decode cX11_image 48 = .ok (.aload_n 0, 1) := by decide +kernel
theorem dX11_image_49 : decode cX11_image 49 = .ok (.getfield 23, 3) := by decide +kernel
theorem dX11_image_52 : decode cX11_image 52 = .ok (.iload_n 1, 1) := by decide +kernel
theorem dX11_image_53 : decode cX11_image 53 = .ok (.iconst 1, 1) := by decide +kernel
theorem dX11_image_54 : decode cX11_image 54 = .ok (.bastore, 1) := by decide +kernel
theorem dX11_image_55 : decode cX11_image 55 = .ok (.aload_n 0, 1) := by decide +kernel
theorem dX11_image_56 : decode cX11_image 56 = .ok (.iconst 0, 1) := by decide +kernel
theorem dX11_image_57 : decode cX11_image 57 = .ok (.invokevirtual 118, 3) := by decide +kernel
theorem dX11_image_60 : decode cX11_image 60 = .ok (.ireturn, 1) := by decide +kernel
theorem dX11_back_0 : decode cX11_back 0 = .ok (.iload_n 1, 1) := by decide +kernel
theorem dX11_back_1 : decode cX11_back 1 = .ok (.iconst 0, 1) := by decide +kernel
theorem dX11_back_2 : decode cX11_back 2 = .ok (.iconst 1, 1) := by decide +kernel
theorem dX11_back_3 : decode cX11_back 3 = .ok (.invokestatic 110, 3) := by decide +kernel
theorem dX11_back_6 : decode cX11_back 6 = .ok (.ifCond .ne 9, 3) := by decide +kernel
theorem dX11_back_9 : decode cX11_back 9 = .ok (.aload_n 0, 1) := by decide +kernel
theorem dX11_back_10 : decode cX11_back 10 = .ok (.iconst (-1), 1) := by decide +kernel
theorem dX11_back_11 : decode cX11_back 11 = .ok (.invokevirtual 114, 3) := by decide +kernel
theorem dX11_back_14 : decode cX11_back 14 = .ok (.ireturn, 1) := by decide +kernel
theorem dX11_back_15 : decode cX11_back 15 = .ok (.aload_n 0, 1) := by decide +kernel
theorem dX11_back_16 : decode cX11_back 16 = .ok (.getfield 23, 3) := by decide +kernel
theorem dX11_back_19 : decode cX11_back 19 = .ok (.iload_n 1, 1) := by decide +kernel
theorem dX11_back_20 : decode cX11_back 20 = .ok (.baload, 1) := by decide +kernel
theorem dX11_back_21 : decode cX11_back 21 = .ok (.ifCond .ne 10, 3) := by decide +kernel
theorem dX11_back_24 : decode cX11_back 24 = .ok (.aload_n 0, 1) := by decide +kernel
theorem dX11_back_25 : decode cX11_back 25 = .ok (.bipush (-2), 2) := by decide +kernel
theorem dX11_back_27 : decode cX11_back 27 = .ok (.invokevirtual 114, 3) := by decide +kernel
theorem dX11_back_30 : decode cX11_back 30 = .ok (.ireturn, 1) := by decide +kernel
theorem dX11_back_31 : decode cX11_back 31 = .ok (.iconst 0, 1) := by decide +kernel
theorem dX11_back_32 : decode cX11_back 32 = .ok (.istore_n 2, 1) := by decide +kernel
theorem dX11_back_33 : decode cX11_back 33 = .ok (.iload_n 2, 1) := by decide +kernel
theorem dX11_back_34 : decode cX11_back 34 = .ok (.sipush 4888, 3) := by decide +kernel
theorem dX11_back_37 : decode cX11_back 37 = .ok (.if_icmp .ge 27, 3) := by decide +kernel
theorem dX11_back_40 : decode cX11_back 40 = .ok (.aload_n 0, 1) := by decide +kernel
theorem dX11_back_41 : decode cX11_back 41 = .ok (.getfield 17, 3) := by decide +kernel
theorem dX11_back_44 : decode cX11_back 44 = .ok (.iload_n 2, 1) := by decide +kernel
theorem dX11_back_45 : decode cX11_back 45 = .ok (.aload_n 0, 1) := by decide +kernel
theorem dX11_back_46 : decode cX11_back 46 = .ok (.getfield 20, 3) := by decide +kernel
theorem dX11_back_49 : decode cX11_back 49 = .ok (.sipush 4888, 3) := by decide +kernel
theorem dX11_back_52 : decode cX11_back 52 = .ok (.iload_n 1, 1) := by decide +kernel
theorem dX11_back_53 : decode cX11_back 53 = .ok (.imul, 1) := by decide +kernel
theorem dX11_back_54 : decode cX11_back 54 = .ok (.iload_n 2, 1) := by decide +kernel
theorem dX11_back_55 : decode cX11_back 55 = .ok (.iadd, 1) := by decide +kernel
theorem dX11_back_56 : decode cX11_back 56 = .ok (.iaload, 1) := by decide +kernel
theorem dX11_back_57 : decode cX11_back 57 = .ok (.iastore, 1) := by decide +kernel
theorem dX11_back_58 : decode cX11_back 58 = .ok (.iinc 2 1, 3) := by decide +kernel
theorem dX11_back_61 : decode cX11_back 61 = .ok (.goto (-28), 3) := by decide +kernel
theorem dX11_back_64 : decode cX11_back 64 = .ok (.aload_n 0, 1) := by decide +kernel
theorem dX11_back_65 : decode cX11_back 65 = .ok (.iconst 0, 1) := by decide +kernel
theorem dX11_back_66 : decode cX11_back 66 = .ok (.invokevirtual 118, 3) := by decide +kernel
theorem dX11_back_69 : decode cX11_back 69 = .ok (.ireturn, 1) := by decide +kernel
theorem dX11_customers_0 : decode cX11_customers 0 = .ok (.aload_n 0, 1) := by decide +kernel
theorem dX11_customers_1 : decode cX11_customers 1 = .ok (.getfield 17, 3) := by decide +kernel
theorem dX11_customers_4 : decode cX11_customers 4 = .ok (.bipush 77, 2) := by decide +kernel
theorem dX11_customers_6 : decode cX11_customers 6 = .ok (.iaload, 1) := by decide +kernel
theorem dX11_customers_7 : decode cX11_customers 7 = .ok (.ireturn, 1) := by decide +kernel
theorem dX11_isCustomer_0 : decode cX11_isCustomer 0 = .ok (.iload_n 1, 1) := by decide +kernel
theorem dX11_isCustomer_1 : decode cX11_isCustomer 1 = .ok (.iconst 0, 1) := by decide +kernel
theorem dX11_isCustomer_2 : decode cX11_isCustomer 2 = .ok (.aload_n 0, 1) := by decide +kernel
theorem dX11_isCustomer_3 : decode cX11_isCustomer 3 = .ok (.invokevirtual 121, 3) := by decide +kernel
theorem dX11_isCustomer_6 : decode cX11_isCustomer 6 = .ok (.iconst 1, 1) := by decide +kernel
theorem dX11_isCustomer_7 : decode cX11_isCustomer 7 = .ok (.isub, 1) := by decide +kernel
theorem dX11_isCustomer_8 : decode cX11_isCustomer 8 = .ok (.invokestatic 110, 3) := by decide +kernel
theorem dX11_isCustomer_11 : decode cX11_isCustomer 11 = .ok (.ireturn, 1) := by decide +kernel
theorem dX11_factOf_0 : decode cX11_factOf 0 = .ok (.aload_n 0, 1) := by decide +kernel
theorem dX11_factOf_1 : decode cX11_factOf 1 = .ok (.getfield 17, 3) := by decide +kernel
theorem dX11_factOf_4 : decode cX11_factOf 4 = .ok (.iconst 5, 1) := by decide +kernel
theorem dX11_factOf_5 : decode cX11_factOf 5 = .ok (.iload_n 1, 1) := by decide +kernel
theorem dX11_factOf_6 : decode cX11_factOf 6 = .ok (.imul, 1) := by decide +kernel
theorem dX11_factOf_7 : decode cX11_factOf 7 = .ok (.iload_n 2, 1) := by decide +kernel
theorem dX11_factOf_8 : decode cX11_factOf 8 = .ok (.iadd, 1) := by decide +kernel
theorem dX11_factOf_9 : decode cX11_factOf 9 = .ok (.iaload, 1) := by decide +kernel
theorem dX11_factOf_10 : decode cX11_factOf 10 = .ok (.ireturn, 1) := by decide +kernel
theorem dX11_isFact_0 : decode cX11_isFact 0 = .ok (.iload_n 0, 1) := by decide +kernel
theorem dX11_isFact_1 : decode cX11_isFact 1 = .ok (.tableswitch 75 0 4 #[35, 43, 51, 58, 67], 35) := by decide +kernel
theorem dX11_isFact_36 : decode cX11_isFact 36 = .ok (.iload_n 1, 1) := by decide +kernel
theorem dX11_isFact_37 : decode cX11_isFact 37 = .ok (.iconst 0, 1) := by decide +kernel
theorem dX11_isFact_38 : decode cX11_isFact 38 = .ok (.bipush 40, 2) := by decide +kernel
theorem dX11_isFact_40 : decode cX11_isFact 40 = .ok (.invokestatic 110, 3) := by decide +kernel
theorem dX11_isFact_43 : decode cX11_isFact 43 = .ok (.ireturn, 1) := by decide +kernel
theorem dX11_isFact_44 : decode cX11_isFact 44 = .ok (.iload_n 1, 1) := by decide +kernel
theorem dX11_isFact_45 : decode cX11_isFact 45 = .ok (.iconst 0, 1) := by decide +kernel
theorem dX11_isFact_46 : decode cX11_isFact 46 = .ok (.bipush 9, 2) := by decide +kernel
theorem dX11_isFact_48 : decode cX11_isFact 48 = .ok (.invokestatic 110, 3) := by decide +kernel
theorem dX11_isFact_51 : decode cX11_isFact 51 = .ok (.ireturn, 1) := by decide +kernel
theorem dX11_isFact_52 : decode cX11_isFact 52 = .ok (.iload_n 1, 1) := by decide +kernel
theorem dX11_isFact_53 : decode cX11_isFact 53 = .ok (.iconst 0, 1) := by decide +kernel
theorem dX11_isFact_54 : decode cX11_isFact 54 = .ok (.iconst 1, 1) := by decide +kernel
theorem dX11_isFact_55 : decode cX11_isFact 55 = .ok (.invokestatic 110, 3) := by decide +kernel
theorem dX11_isFact_58 : decode cX11_isFact 58 = .ok (.ireturn, 1) := by decide +kernel
theorem dX11_isFact_59 : decode cX11_isFact 59 = .ok (.iload_n 1, 1) := by decide +kernel
theorem dX11_isFact_60 : decode cX11_isFact 60 = .ok (.iconst 0, 1) := by decide +kernel
theorem dX11_isFact_61 : decode cX11_isFact 61 = .ok (.sipush 9999, 3) := by decide +kernel
theorem dX11_isFact_64 : decode cX11_isFact 64 = .ok (.invokestatic 110, 3) := by decide +kernel
theorem dX11_isFact_67 : decode cX11_isFact 67 = .ok (.ireturn, 1) := by decide +kernel
theorem dX11_isFact_68 : decode cX11_isFact 68 = .ok (.iload_n 1, 1) := by decide +kernel
theorem dX11_isFact_69 : decode cX11_isFact 69 = .ok (.iconst 0, 1) := by decide +kernel
theorem dX11_isFact_70 : decode cX11_isFact 70 = .ok (.ldc 125, 2) := by decide +kernel
theorem dX11_isFact_72 : decode cX11_isFact 72 = .ok (.invokestatic 110, 3) := by decide +kernel
theorem dX11_isFact_75 : decode cX11_isFact 75 = .ok (.ireturn, 1) := by decide +kernel
theorem dX11_isFact_76 : decode cX11_isFact 76 = .ok (.iconst 0, 1) := by decide +kernel
theorem dX11_isFact_77 : decode cX11_isFact 77 = .ok (.ireturn, 1) := by decide +kernel
theorem dX11_adds_0 : decode cX11_adds 0 = .ok (.iconst 5, 1) := by decide +kernel
theorem dX11_adds_1 : decode cX11_adds 1 = .ok (.aload_n 0, 1) := by decide +kernel
theorem dX11_adds_2 : decode cX11_adds 2 = .ok (.invokevirtual 121, 3) := by decide +kernel
theorem dX11_adds_5 : decode cX11_adds 5 = .ok (.imul, 1) := by decide +kernel
theorem dX11_adds_6 : decode cX11_adds 6 = .ok (.istore 4, 2) := by decide +kernel
theorem dX11_adds_8 : decode cX11_adds 8 = .ok (.aload_n 0, 1) := by decide +kernel
theorem dX11_adds_9 : decode cX11_adds 9 = .ok (.getfield 17, 3) := by decide +kernel
theorem dX11_adds_12 : decode cX11_adds 12 = .ok (.iload 4, 2) := by decide +kernel
theorem dX11_adds_14 : decode cX11_adds 14 = .ok (.iconst 0, 1) := by decide +kernel
theorem dX11_adds_15 : decode cX11_adds 15 = .ok (.iadd, 1) := by decide +kernel
theorem dX11_adds_16 : decode cX11_adds 16 = .ok (.iload_n 1, 1) := by decide +kernel
theorem dX11_adds_17 : decode cX11_adds 17 = .ok (.iastore, 1) := by decide +kernel
theorem dX11_adds_18 : decode cX11_adds 18 = .ok (.aload_n 0, 1) := by decide +kernel
theorem dX11_adds_19 : decode cX11_adds 19 = .ok (.getfield 17, 3) := by decide +kernel
theorem dX11_adds_22 : decode cX11_adds 22 = .ok (.iload 4, 2) := by decide +kernel
theorem dX11_adds_24 : decode cX11_adds 24 = .ok (.iconst 1, 1) := by decide +kernel
theorem dX11_adds_25 : decode cX11_adds 25 = .ok (.iadd, 1) := by decide +kernel
theorem dX11_adds_26 : decode cX11_adds 26 = .ok (.iload_n 2, 1) := by decide +kernel
theorem dX11_adds_27 : decode cX11_adds 27 = .ok (.iastore, 1) := by decide +kernel
theorem dX11_adds_28 : decode cX11_adds 28 = .ok (.aload_n 0, 1) := by decide +kernel
theorem dX11_adds_29 : decode cX11_adds 29 = .ok (.getfield 17, 3) := by decide +kernel
theorem dX11_adds_32 : decode cX11_adds 32 = .ok (.iload 4, 2) := by decide +kernel
theorem dX11_adds_34 : decode cX11_adds 34 = .ok (.iconst 2, 1) := by decide +kernel
theorem dX11_adds_35 : decode cX11_adds 35 = .ok (.iadd, 1) := by decide +kernel
theorem dX11_adds_36 : decode cX11_adds 36 = .ok (.iload_n 3, 1) := by decide +kernel
theorem dX11_adds_37 : decode cX11_adds 37 = .ok (.iastore, 1) := by decide +kernel
theorem dX11_adds_38 : decode cX11_adds 38 = .ok (.aload_n 0, 1) := by decide +kernel
theorem dX11_adds_39 : decode cX11_adds 39 = .ok (.getfield 17, 3) := by decide +kernel
theorem dX11_adds_42 : decode cX11_adds 42 = .ok (.iload 4, 2) := by decide +kernel
theorem dX11_adds_44 : decode cX11_adds 44 = .ok (.iconst 3, 1) := by decide +kernel
theorem dX11_adds_45 : decode cX11_adds 45 = .ok (.iadd, 1) := by decide +kernel
theorem dX11_adds_46 : decode cX11_adds 46 = .ok (.iconst 0, 1) := by decide +kernel
theorem dX11_adds_47 : decode cX11_adds 47 = .ok (.iastore, 1) := by decide +kernel
theorem dX11_adds_48 : decode cX11_adds 48 = .ok (.aload_n 0, 1) := by decide +kernel
theorem dX11_adds_49 : decode cX11_adds 49 = .ok (.getfield 17, 3) := by decide +kernel
theorem dX11_adds_52 : decode cX11_adds 52 = .ok (.iload 4, 2) := by decide +kernel
theorem dX11_adds_54 : decode cX11_adds 54 = .ok (.iconst 4, 1) := by decide +kernel
theorem dX11_adds_55 : decode cX11_adds 55 = .ok (.iadd, 1) := by decide +kernel
theorem dX11_adds_56 : decode cX11_adds 56 = .ok (.iconst 0, 1) := by decide +kernel
theorem dX11_adds_57 : decode cX11_adds 57 = .ok (.iastore, 1) := by decide +kernel
theorem dX11_adds_58 : decode cX11_adds 58 = .ok (.aload_n 0, 1) := by decide +kernel
theorem dX11_adds_59 : decode cX11_adds 59 = .ok (.getfield 17, 3) := by decide +kernel
theorem dX11_adds_62 : decode cX11_adds 62 = .ok (.bipush 77, 2) := by decide +kernel
theorem dX11_adds_64 : decode cX11_adds 64 = .ok (.dup2, 1) := by decide +kernel
theorem dX11_adds_65 : decode cX11_adds 65 = .ok (.iaload, 1) := by decide +kernel
theorem dX11_adds_66 : decode cX11_adds 66 = .ok (.iconst 1, 1) := by decide +kernel
theorem dX11_adds_67 : decode cX11_adds 67 = .ok (.iadd, 1) := by decide +kernel
theorem dX11_adds_68 : decode cX11_adds 68 = .ok (.iastore, 1) := by decide +kernel
theorem dX11_adds_69 : decode cX11_adds 69 = .ok (.aload_n 0, 1) := by decide +kernel
theorem dX11_adds_70 : decode cX11_adds 70 = .ok (.invokevirtual 121, 3) := by decide +kernel
theorem dX11_adds_73 : decode cX11_adds 73 = .ok (.iconst 1, 1) := by decide +kernel
theorem dX11_adds_74 : decode cX11_adds 74 = .ok (.isub, 1) := by decide +kernel
theorem dX11_adds_75 : decode cX11_adds 75 = .ok (.ireturn, 1) := by decide +kernel
theorem dX11_customer_0 : decode cX11_customer 0 = .ok (.iconst 0, 1) := by decide +kernel
theorem dX11_customer_1 : decode cX11_customer 1 = .ok (.iload_n 1, 1) := by decide +kernel
theorem dX11_customer_2 : decode cX11_customer 2 = .ok (.invokestatic 126, 3) := by decide +kernel
theorem dX11_customer_5 : decode cX11_customer 5 = .ok (.ifCond .eq 19, 3) := by decide +kernel
theorem dX11_customer_8 : decode cX11_customer 8 = .ok (.iconst 1, 1) := by decide +kernel
theorem dX11_customer_9 : decode cX11_customer 9 = .ok (.iload_n 2, 1) := by decide +kernel
theorem dX11_customer_10 : decode cX11_customer 10 = .ok (.invokestatic 126, 3) := by decide +kernel
theorem dX11_customer_13 : decode cX11_customer 13 = .ok (.ifCond .eq 11, 3) := by decide +kernel
theorem dX11_customer_16 : decode cX11_customer 16 = .ok (.iconst 2, 1) := by decide +kernel
theorem dX11_customer_17 : decode cX11_customer 17 = .ok (.iload_n 3, 1) := by decide +kernel
theorem dX11_customer_18 : decode cX11_customer 18 = .ok (.invokestatic 126, 3) := by decide +kernel
theorem dX11_customer_21 : decode cX11_customer 21 = .ok (.ifCond .ne 9, 3) := by decide +kernel
theorem dX11_customer_24 : decode cX11_customer 24 = .ok (.aload_n 0, 1) := by decide +kernel
theorem dX11_customer_25 : decode cX11_customer 25 = .ok (.iconst (-1), 1) := by decide +kernel
theorem dX11_customer_26 : decode cX11_customer 26 = .ok (.invokevirtual 114, 3) := by decide +kernel
theorem dX11_customer_29 : decode cX11_customer 29 = .ok (.ireturn, 1) := by decide +kernel
theorem dX11_customer_30 : decode cX11_customer 30 = .ok (.aload_n 0, 1) := by decide +kernel
theorem dX11_customer_31 : decode cX11_customer 31 = .ok (.invokevirtual 121, 3) := by decide +kernel
theorem dX11_customer_34 : decode cX11_customer 34 = .ok (.bipush 8, 2) := by decide +kernel
theorem dX11_customer_36 : decode cX11_customer 36 = .ok (.if_icmp .ne 10, 3) := by decide +kernel
theorem dX11_customer_39 : decode cX11_customer 39 = .ok (.aload_n 0, 1) := by decide +kernel
theorem dX11_customer_40 : decode cX11_customer 40 = .ok (.bipush (-5), 2) := by decide +kernel
theorem dX11_customer_42 : decode cX11_customer 42 = .ok (.invokevirtual 114, 3) := by decide +kernel
theorem dX11_customer_45 : decode cX11_customer 45 = .ok (.ireturn, 1) := by decide +kernel
theorem dX11_customer_46 : decode cX11_customer 46 = .ok (.aload_n 0, 1) := by decide +kernel
theorem dX11_customer_47 : decode cX11_customer 47 = .ok (.aload_n 0, 1) := by decide +kernel
theorem dX11_customer_48 : decode cX11_customer 48 = .ok (.iload_n 1, 1) := by decide +kernel
theorem dX11_customer_49 : decode cX11_customer 49 = .ok (.iload_n 2, 1) := by decide +kernel
theorem dX11_customer_50 : decode cX11_customer 50 = .ok (.iload_n 3, 1) := by decide +kernel
theorem dX11_customer_51 : decode cX11_customer 51 = .ok (.invokevirtual 130, 3) := by decide +kernel
theorem dX11_customer_54 : decode cX11_customer 54 = .ok (.invokevirtual 118, 3) := by decide +kernel
theorem dX11_customer_57 : decode cX11_customer 57 = .ok (.ireturn, 1) := by decide +kernel
theorem dX11_put_0 : decode cX11_put 0 = .ok (.iload_n 2, 1) := by decide +kernel
theorem dX11_put_1 : decode cX11_put 1 = .ok (.iload_n 3, 1) := by decide +kernel
theorem dX11_put_2 : decode cX11_put 2 = .ok (.invokestatic 126, 3) := by decide +kernel
theorem dX11_put_5 : decode cX11_put 5 = .ok (.ifCond .ne 9, 3) := by decide +kernel
theorem dX11_put_8 : decode cX11_put 8 = .ok (.aload_n 0, 1) := by decide +kernel
theorem dX11_put_9 : decode cX11_put 9 = .ok (.iconst (-1), 1) := by decide +kernel
theorem dX11_put_10 : decode cX11_put 10 = .ok (.invokevirtual 114, 3) := by decide +kernel
theorem dX11_put_13 : decode cX11_put 13 = .ok (.ireturn, 1) := by decide +kernel
theorem dX11_put_14 : decode cX11_put 14 = .ok (.aload_n 0, 1) := by decide +kernel
theorem dX11_put_15 : decode cX11_put 15 = .ok (.iload_n 1, 1) := by decide +kernel
theorem dX11_put_16 : decode cX11_put 16 = .ok (.invokevirtual 134, 3) := by decide +kernel
theorem dX11_put_19 : decode cX11_put 19 = .ok (.ifCond .ne 10, 3) := by decide +kernel
theorem dX11_put_22 : decode cX11_put 22 = .ok (.aload_n 0, 1) := by decide +kernel
theorem dX11_put_23 : decode cX11_put 23 = .ok (.bipush (-2), 2) := by decide +kernel
theorem dX11_put_25 : decode cX11_put 25 = .ok (.invokevirtual 114, 3) := by decide +kernel
theorem dX11_put_28 : decode cX11_put 28 = .ok (.ireturn, 1) := by decide +kernel
theorem dX11_put_29 : decode cX11_put 29 = .ok (.aload_n 0, 1) := by decide +kernel
theorem dX11_put_30 : decode cX11_put 30 = .ok (.iload_n 1, 1) := by decide +kernel
theorem dX11_put_31 : decode cX11_put 31 = .ok (.iload_n 2, 1) := by decide +kernel
theorem dX11_put_32 : decode cX11_put 32 = .ok (.invokevirtual 138, 3) := by decide +kernel
theorem dX11_put_35 : decode cX11_put 35 = .ok (.istore 4, 2) := by decide +kernel
theorem dX11_put_37 : decode cX11_put 37 = .ok (.aload_n 0, 1) := by decide +kernel
theorem dX11_put_38 : decode cX11_put 38 = .ok (.getfield 17, 3) := by decide +kernel
theorem dX11_put_41 : decode cX11_put 41 = .ok (.iconst 5, 1) := by decide +kernel
theorem dX11_put_42 : decode cX11_put 42 = .ok (.iload_n 1, 1) := by decide +kernel
theorem dX11_put_43 : decode cX11_put 43 = .ok (.imul, 1) := by decide +kernel
theorem dX11_put_44 : decode cX11_put 44 = .ok (.iload_n 2, 1) := by decide +kernel
theorem dX11_put_45 : decode cX11_put 45 = .ok (.iadd, 1) := by decide +kernel
theorem dX11_put_46 : decode cX11_put 46 = .ok (.iload_n 3, 1) := by decide +kernel
theorem dX11_put_47 : decode cX11_put 47 = .ok (.iastore, 1) := by decide +kernel
theorem dX11_put_48 : decode cX11_put 48 = .ok (.aload_n 0, 1) := by decide +kernel
theorem dX11_put_49 : decode cX11_put 49 = .ok (.iload 4, 2) := by decide +kernel
theorem dX11_put_51 : decode cX11_put 51 = .ok (.invokevirtual 118, 3) := by decide +kernel
theorem dX11_put_54 : decode cX11_put 54 = .ok (.ireturn, 1) := by decide +kernel
theorem dX11_of_0 : decode cX11_of 0 = .ok (.aload_n 0, 1) := by decide +kernel
theorem dX11_of_1 : decode cX11_of 1 = .ok (.iload_n 1, 1) := by decide +kernel
theorem dX11_of_2 : decode cX11_of 2 = .ok (.invokevirtual 134, 3) := by decide +kernel
theorem dX11_of_5 : decode cX11_of 5 = .ok (.ifCond .eq 12, 3) := by decide +kernel
theorem dX11_of_8 : decode cX11_of 8 = .ok (.iload_n 2, 1) := by decide +kernel
theorem dX11_of_9 : decode cX11_of 9 = .ok (.iconst 0, 1) := by decide +kernel
theorem dX11_of_10 : decode cX11_of 10 = .ok (.iconst 5, 1) := by decide +kernel
theorem dX11_of_11 : decode cX11_of 11 = .ok (.invokestatic 110, 3) := by decide +kernel
theorem dX11_of_14 : decode cX11_of 14 = .ok (.ifCond .ne 5, 3) := by decide +kernel
theorem dX11_of_17 : decode cX11_of 17 = .ok (.iconst (-1), 1) := by decide +kernel
theorem dX11_of_18 : decode cX11_of 18 = .ok (.ireturn, 1) := by decide +kernel
theorem dX11_of_19 : decode cX11_of 19 = .ok (.iload_n 2, 1) := by decide +kernel
theorem dX11_of_20 : decode cX11_of 20 = .ok (.iconst 5, 1) := by decide +kernel
theorem dX11_of_21 : decode cX11_of 21 = .ok (.if_icmp .ge 10, 3) := by decide +kernel
theorem dX11_of_24 : decode cX11_of 24 = .ok (.aload_n 0, 1) := by decide +kernel
theorem dX11_of_25 : decode cX11_of 25 = .ok (.iload_n 1, 1) := by decide +kernel
theorem dX11_of_26 : decode cX11_of 26 = .ok (.iload_n 2, 1) := by decide +kernel
theorem dX11_of_27 : decode cX11_of 27 = .ok (.invokevirtual 138, 3) := by decide +kernel
theorem dX11_of_30 : decode cX11_of 30 = .ok (.ireturn, 1) := by decide +kernel
theorem dX11_of_31 : decode cX11_of 31 = .ok (.aload_n 0, 1) := by decide +kernel
theorem dX11_of_32 : decode cX11_of 32 = .ok (.aload_n 0, 1) := by decide +kernel
theorem dX11_of_33 : decode cX11_of 33 = .ok (.getfield 17, 3) := by decide +kernel
theorem dX11_of_36 : decode cX11_of 36 = .ok (.bipush 42, 2) := by decide +kernel
theorem dX11_of_38 : decode cX11_of 38 = .ok (.iaload, 1) := by decide +kernel
theorem dX11_of_39 : decode cX11_of 39 = .ok (.invokevirtual 142, 3) := by decide +kernel
theorem dX11_of_42 : decode cX11_of 42 = .ok (.aload_n 0, 1) := by decide +kernel
theorem dX11_of_43 : decode cX11_of 43 = .ok (.getfield 52, 3) := by decide +kernel
theorem dX11_of_46 : decode cX11_of 46 = .ok (.iload_n 1, 1) := by decide +kernel
theorem dX11_of_47 : decode cX11_of 47 = .ok (.iaload, 1) := by decide +kernel
theorem dX11_of_48 : decode cX11_of 48 = .ok (.ireturn, 1) := by decide +kernel
theorem dX11_owed_0 : decode cX11_owed 0 = .ok (.aload_n 0, 1) := by decide +kernel
theorem dX11_owed_1 : decode cX11_owed 1 = .ok (.iload_n 1, 1) := by decide +kernel
theorem dX11_owed_2 : decode cX11_owed 2 = .ok (.invokevirtual 134, 3) := by decide +kernel
theorem dX11_owed_5 : decode cX11_owed 5 = .ok (.ifCond .eq 27, 3) := by decide +kernel
theorem dX11_owed_8 : decode cX11_owed 8 = .ok (.aload_n 0, 1) := by decide +kernel
theorem dX11_owed_9 : decode cX11_owed 9 = .ok (.iload_n 1, 1) := by decide +kernel
theorem dX11_owed_10 : decode cX11_owed 10 = .ok (.iconst 4, 1) := by decide +kernel
theorem dX11_owed_11 : decode cX11_owed 11 = .ok (.invokevirtual 138, 3) := by decide +kernel
theorem dX11_owed_14 : decode cX11_owed 14 = .ok (.aload_n 0, 1) := by decide +kernel
theorem dX11_owed_15 : decode cX11_owed 15 = .ok (.getfield 17, 3) := by decide +kernel
theorem dX11_owed_18 : decode cX11_owed 18 = .ok (.bipush 40, 2) := by decide +kernel
theorem dX11_owed_20 : decode cX11_owed 20 = .ok (.iaload, 1) := by decide +kernel
theorem dX11_owed_21 : decode cX11_owed 21 = .ok (.aload_n 0, 1) := by decide +kernel
theorem dX11_owed_22 : decode cX11_owed 22 = .ok (.iload_n 1, 1) := by decide +kernel
theorem dX11_owed_23 : decode cX11_owed 23 = .ok (.iconst 3, 1) := by decide +kernel
theorem dX11_owed_24 : decode cX11_owed 24 = .ok (.invokevirtual 138, 3) := by decide +kernel
theorem dX11_owed_27 : decode cX11_owed 27 = .ok (.imul, 1) := by decide +kernel
theorem dX11_owed_28 : decode cX11_owed 28 = .ok (.isub, 1) := by decide +kernel
theorem dX11_owed_29 : decode cX11_owed 29 = .ok (.goto 5, 3) := by decide +kernel
theorem dX11_owed_32 : decode cX11_owed 32 = .ok (.ldc 146, 2) := by decide +kernel
theorem dX11_owed_34 : decode cX11_owed 34 = .ok (.ireturn, 1) := by decide +kernel
theorem dX11_isTerm_0 : decode cX11_isTerm 0 = .ok (.iload_n 0, 1) := by decide +kernel
theorem dX11_isTerm_1 : decode cX11_isTerm 1 = .ok (.tableswitch 68 0 4 #[35, 43, 51, 60, 60], 35) := by decide +kernel
theorem dX11_isTerm_36 : decode cX11_isTerm 36 = .ok (.iload_n 1, 1) := by decide +kernel
theorem dX11_isTerm_37 : decode cX11_isTerm 37 = .ok (.iconst 2, 1) := by decide +kernel
theorem dX11_isTerm_38 : decode cX11_isTerm 38 = .ok (.bipush 20, 2) := by decide +kernel
theorem dX11_isTerm_40 : decode cX11_isTerm 40 = .ok (.invokestatic 110, 3) := by decide +kernel
theorem dX11_isTerm_43 : decode cX11_isTerm 43 = .ok (.ireturn, 1) := by decide +kernel
theorem dX11_isTerm_44 : decode cX11_isTerm 44 = .ok (.iload_n 1, 1) := by decide +kernel
theorem dX11_isTerm_45 : decode cX11_isTerm 45 = .ok (.iconst 0, 1) := by decide +kernel
theorem dX11_isTerm_46 : decode cX11_isTerm 46 = .ok (.bipush 9, 2) := by decide +kernel
theorem dX11_isTerm_48 : decode cX11_isTerm 48 = .ok (.invokestatic 110, 3) := by decide +kernel
theorem dX11_isTerm_51 : decode cX11_isTerm 51 = .ok (.ireturn, 1) := by decide +kernel
theorem dX11_isTerm_52 : decode cX11_isTerm 52 = .ok (.iload_n 1, 1) := by decide +kernel
theorem dX11_isTerm_53 : decode cX11_isTerm 53 = .ok (.iconst 0, 1) := by decide +kernel
theorem dX11_isTerm_54 : decode cX11_isTerm 54 = .ok (.sipush 9999, 3) := by decide +kernel
theorem dX11_isTerm_57 : decode cX11_isTerm 57 = .ok (.invokestatic 110, 3) := by decide +kernel
theorem dX11_isTerm_60 : decode cX11_isTerm 60 = .ok (.ireturn, 1) := by decide +kernel
theorem dX11_isTerm_61 : decode cX11_isTerm 61 = .ok (.iload_n 1, 1) := by decide +kernel
theorem dX11_isTerm_62 : decode cX11_isTerm 62 = .ok (.iconst 0, 1) := by decide +kernel
theorem dX11_isTerm_63 : decode cX11_isTerm 63 = .ok (.ldc 125, 2) := by decide +kernel
theorem dX11_isTerm_65 : decode cX11_isTerm 65 = .ok (.invokestatic 110, 3) := by decide +kernel
theorem dX11_isTerm_68 : decode cX11_isTerm 68 = .ok (.ireturn, 1) := by decide +kernel
theorem dX11_isTerm_69 : decode cX11_isTerm 69 = .ok (.iconst 0, 1) := by decide +kernel
theorem dX11_isTerm_70 : decode cX11_isTerm 70 = .ok (.ireturn, 1) := by decide +kernel
theorem dX11_terms_0 : decode cX11_terms 0 = .ok (.iload_n 1, 1) := by decide +kernel
theorem dX11_terms_1 : decode cX11_terms 1 = .ok (.iload_n 2, 1) := by decide +kernel
theorem dX11_terms_2 : decode cX11_terms 2 = .ok (.invokestatic 147, 3) := by decide +kernel
theorem dX11_terms_5 : decode cX11_terms 5 = .ok (.ifCond .ne 9, 3) := by decide +kernel
theorem dX11_terms_8 : decode cX11_terms 8 = .ok (.aload_n 0, 1) := by decide +kernel
theorem dX11_terms_9 : decode cX11_terms 9 = .ok (.iconst (-1), 1) := by decide +kernel
theorem dX11_terms_10 : decode cX11_terms 10 = .ok (.invokevirtual 114, 3) := by decide +kernel
theorem dX11_terms_13 : decode cX11_terms 13 = .ok (.ireturn, 1) := by decide +kernel
theorem dX11_terms_14 : decode cX11_terms 14 = .ok (.aload_n 0, 1) := by decide +kernel
theorem dX11_terms_15 : decode cX11_terms 15 = .ok (.getfield 17, 3) := by decide +kernel
theorem dX11_terms_18 : decode cX11_terms 18 = .ok (.bipush 40, 2) := by decide +kernel
theorem dX11_terms_20 : decode cX11_terms 20 = .ok (.iload_n 1, 1) := by decide +kernel
theorem dX11_terms_21 : decode cX11_terms 21 = .ok (.iadd, 1) := by decide +kernel
theorem dX11_terms_22 : decode cX11_terms 22 = .ok (.iaload, 1) := by decide +kernel
theorem dX11_terms_23 : decode cX11_terms 23 = .ok (.istore_n 3, 1) := by decide +kernel
theorem dX11_terms_24 : decode cX11_terms 24 = .ok (.aload_n 0, 1) := by decide +kernel
theorem dX11_terms_25 : decode cX11_terms 25 = .ok (.getfield 17, 3) := by decide +kernel
theorem dX11_terms_28 : decode cX11_terms 28 = .ok (.bipush 40, 2) := by decide +kernel
theorem dX11_terms_30 : decode cX11_terms 30 = .ok (.iload_n 1, 1) := by decide +kernel
theorem dX11_terms_31 : decode cX11_terms 31 = .ok (.iadd, 1) := by decide +kernel
theorem dX11_terms_32 : decode cX11_terms 32 = .ok (.iload_n 2, 1) := by decide +kernel
theorem dX11_terms_33 : decode cX11_terms 33 = .ok (.iastore, 1) := by decide +kernel
theorem dX11_terms_34 : decode cX11_terms 34 = .ok (.aload_n 0, 1) := by decide +kernel
theorem dX11_terms_35 : decode cX11_terms 35 = .ok (.iload_n 3, 1) := by decide +kernel
theorem dX11_terms_36 : decode cX11_terms 36 = .ok (.invokevirtual 118, 3) := by decide +kernel
theorem dX11_terms_39 : decode cX11_terms 39 = .ok (.ireturn, 1) := by decide +kernel
theorem dX11_row_0 : decode cX11_row 0 = .ok (.aload_n 0, 1) := by decide +kernel
theorem dX11_row_1 : decode cX11_row 1 = .ok (.getfield 150, 3) := by decide +kernel
theorem dX11_row_4 : decode cX11_row 4 = .ok (.istore_n 1, 1) := by decide +kernel
theorem dX11_row_5 : decode cX11_row 5 = .ok (.aload_n 0, 1) := by decide +kernel
theorem dX11_row_6 : decode cX11_row 6 = .ok (.iconst 0, 1) := by decide +kernel
theorem dX11_row_7 : decode cX11_row 7 = .ok (.putfield 150, 3) := by decide +kernel
theorem dX11_row_10 : decode cX11_row 10 = .ok (.iload_n 1, 1) := by decide +kernel
theorem dX11_row_11 : decode cX11_row 11 = .ok (.ifCond .ne 10, 3) := by decide +kernel
theorem dX11_row_14 : decode cX11_row 14 = .ok (.aload_n 0, 1) := by decide +kernel
theorem dX11_row_15 : decode cX11_row 15 = .ok (.bipush (-6), 2) := by decide +kernel
theorem dX11_row_17 : decode cX11_row 17 = .ok (.invokevirtual 114, 3) := by decide +kernel
theorem dX11_row_20 : decode cX11_row 20 = .ok (.ireturn, 1) := by decide +kernel
theorem dX11_row_21 : decode cX11_row 21 = .ok (.iconst 0, 1) := by decide +kernel
theorem dX11_row_22 : decode cX11_row 22 = .ok (.istore_n 2, 1) := by decide +kernel
theorem dX11_row_23 : decode cX11_row 23 = .ok (.aload_n 0, 1) := by decide +kernel
theorem dX11_row_24 : decode cX11_row 24 = .ok (.iload_n 1, 1) := by decide +kernel
theorem dX11_row_25 : decode cX11_row 25 = .ok (.iconst 3, 1) := by decide +kernel
theorem dX11_row_26 : decode cX11_row 26 = .ok (.irem, 1) := by decide +kernel
theorem dX11_row_27 : decode cX11_row 27 = .ok (.ifCond .ne 7, 3) := by decide +kernel
theorem dX11_row_30 : decode cX11_row 30 = .ok (.iconst 0, 1) := by decide +kernel
theorem dX11_row_31 : decode cX11_row 31 = .ok (.goto 4, 3) := by decide +kernel
theorem dX11_row_34 : decode cX11_row 34 = .ok (.iconst 1, 1) := by decide +kernel
theorem dX11_row_35 : decode cX11_row 35 = .ok (.putfield 153, 3) := by decide +kernel
theorem dX11_row_38 : decode cX11_row 38 = .ok (.iconst 0, 1) := by decide +kernel
theorem dX11_row_39 : decode cX11_row 39 = .ok (.istore_n 3, 1) := by decide +kernel
theorem dX11_row_40 : decode cX11_row 40 = .ok (.iload_n 3, 1) := by decide +kernel
theorem dX11_row_41 : decode cX11_row 41 = .ok (.iconst 3, 1) := by decide +kernel
theorem dX11_row_42 : decode cX11_row 42 = .ok (.iadd, 1) := by decide +kernel
theorem dX11_row_43 : decode cX11_row 43 = .ok (.iload_n 1, 1) := by decide +kernel
theorem dX11_row_44 : decode cX11_row 44 = .ok (.if_icmp .gt 132, 3) := by decide +kernel
theorem dX11_row_47 : decode cX11_row 47 = .ok (.aload_n 0, 1) := by decide +kernel
theorem dX11_row_48 : decode cX11_row 48 = .ok (.invokevirtual 121, 3) := by decide +kernel
theorem dX11_row_51 : decode cX11_row 51 = .ok (.bipush 8, 2) := by decide +kernel
theorem dX11_row_53 : decode cX11_row 53 = .ok (.if_icmp .ge 50, 3) := by decide +kernel
theorem dX11_row_56 : decode cX11_row 56 = .ok (.iconst 0, 1) := by decide +kernel
theorem dX11_row_57 : decode cX11_row 57 = .ok (.aload_n 0, 1) := by decide +kernel
theorem dX11_row_58 : decode cX11_row 58 = .ok (.getfield 31, 3) := by decide +kernel
theorem dX11_row_61 : decode cX11_row 61 = .ok (.iload_n 3, 1) := by decide +kernel
theorem dX11_row_62 : decode cX11_row 62 = .ok (.baload, 1) := by decide +kernel
theorem dX11_row_63 : decode cX11_row 63 = .ok (.invokestatic 126, 3) := by decide +kernel
theorem dX11_row_66 : decode cX11_row 66 = .ok (.ifCond .eq 37, 3) := by decide +kernel
theorem dX11_row_69 : decode cX11_row 69 = .ok (.iconst 1, 1) := by decide +kernel
theorem dX11_row_70 : decode cX11_row 70 = .ok (.aload_n 0, 1) := by decide +kernel
theorem dX11_row_71 : decode cX11_row 71 = .ok (.getfield 31, 3) := by decide +kernel
theorem dX11_row_74 : decode cX11_row 74 = .ok (.iload_n 3, 1) := by decide +kernel
theorem dX11_row_75 : decode cX11_row 75 = .ok (.iconst 1, 1) := by decide +kernel
theorem dX11_row_76 : decode cX11_row 76 = .ok (.iadd, 1) := by decide +kernel
theorem dX11_row_77 : decode cX11_row 77 = .ok (.baload, 1) := by decide +kernel
theorem dX11_row_78 : decode cX11_row 78 = .ok (.invokestatic 126, 3) := by decide +kernel
theorem dX11_row_81 : decode cX11_row 81 = .ok (.ifCond .eq 22, 3) := by decide +kernel
theorem dX11_row_84 : decode cX11_row 84 = .ok (.iconst 2, 1) := by decide +kernel
theorem dX11_row_85 : decode cX11_row 85 = .ok (.aload_n 0, 1) := by decide +kernel
theorem dX11_row_86 : decode cX11_row 86 = .ok (.getfield 31, 3) := by decide +kernel
theorem dX11_row_89 : decode cX11_row 89 = .ok (.iload_n 3, 1) := by decide +kernel
theorem dX11_row_90 : decode cX11_row 90 = .ok (.iconst 2, 1) := by decide +kernel
theorem dX11_row_91 : decode cX11_row 91 = .ok (.iadd, 1) := by decide +kernel
theorem dX11_row_92 : decode cX11_row 92 = .ok (.baload, 1) := by decide +kernel
theorem dX11_row_93 : decode cX11_row 93 = .ok (.invokestatic 126, 3) := by decide +kernel
theorem dX11_row_96 : decode cX11_row 96 = .ok (.ifCond .eq 7, 3) := by decide +kernel
theorem dX11_row_99 : decode cX11_row 99 = .ok (.iconst 1, 1) := by decide +kernel
theorem dX11_row_100 : decode cX11_row 100 = .ok (.goto 4, 3) := by decide +kernel
theorem dX11_row_103 : decode cX11_row 103 = .ok (.iconst 0, 1) := by decide +kernel
theorem dX11_row_104 : decode cX11_row 104 = .ok (.istore 4, 2) := by decide +kernel
theorem dX11_row_106 : decode cX11_row 106 = .ok (.iload 4, 2) := by decide +kernel
theorem dX11_row_108 : decode cX11_row 108 = .ok (.ifCond .eq 30, 3) := by decide +kernel
theorem dX11_row_111 : decode cX11_row 111 = .ok (.aload_n 0, 1) := by decide +kernel
theorem dX11_row_112 : decode cX11_row 112 = .ok (.aload_n 0, 1) := by decide +kernel
theorem dX11_row_113 : decode cX11_row 113 = .ok (.getfield 31, 3) := by decide +kernel
theorem dX11_row_116 : decode cX11_row 116 = .ok (.iload_n 3, 1) := by decide +kernel
theorem dX11_row_117 : decode cX11_row 117 = .ok (.baload, 1) := by decide +kernel
theorem dX11_row_118 : decode cX11_row 118 = .ok (.aload_n 0, 1) := by decide +kernel
theorem dX11_row_119 : decode cX11_row 119 = .ok (.getfield 31, 3) := by decide +kernel
theorem dX11_row_122 : decode cX11_row 122 = .ok (.iload_n 3, 1) := by decide +kernel
theorem dX11_row_123 : decode cX11_row 123 = .ok (.iconst 1, 1) := by decide +kernel
theorem dX11_row_124 : decode cX11_row 124 = .ok (.iadd, 1) := by decide +kernel
theorem dX11_row_125 : decode cX11_row 125 = .ok (.baload, 1) := by decide +kernel
theorem dX11_row_126 : decode cX11_row 126 = .ok (.aload_n 0, 1) := by decide +kernel
theorem dX11_row_127 : decode cX11_row 127 = .ok (.getfield 31, 3) := by decide +kernel
theorem dX11_row_130 : decode cX11_row 130 = .ok (.iload_n 3, 1) := by decide +kernel
theorem dX11_row_131 : decode cX11_row 131 = .ok (.iconst 2, 1) := by decide +kernel
theorem dX11_row_132 : decode cX11_row 132 = .ok (.iadd, 1) := by decide +kernel
theorem dX11_row_133 : decode cX11_row 133 = .ok (.baload, 1) := by decide +kernel
theorem dX11_row_134 : decode cX11_row 134 = .ok (.invokevirtual 130, 3) := by decide +kernel
theorem dX11_row_137 : decode cX11_row 137 = .ok (.pop, 1) := by decide +kernel
theorem dX11_row_138 : decode cX11_row 138 = .ok (.iload_n 2, 1) := by decide +kernel
theorem dX11_row_139 : decode cX11_row 139 = .ok (.iload 4, 2) := by decide +kernel
theorem dX11_row_141 : decode cX11_row 141 = .ok (.ifCond .eq 7, 3) := by decide +kernel
theorem dX11_row_144 : decode cX11_row 144 = .ok (.iconst 1, 1) := by decide +kernel
theorem dX11_row_145 : decode cX11_row 145 = .ok (.goto 4, 3) := by decide +kernel
theorem dX11_row_148 : decode cX11_row 148 = .ok (.iconst 0, 1) := by decide +kernel
theorem dX11_row_149 : decode cX11_row 149 = .ok (.iadd, 1) := by decide +kernel
theorem dX11_row_150 : decode cX11_row 150 = .ok (.istore_n 2, 1) := by decide +kernel
theorem dX11_row_151 : decode cX11_row 151 = .ok (.aload_n 0, 1) := by decide +kernel
theorem dX11_row_152 : decode cX11_row 152 = .ok (.dup, 1) := by decide +kernel
theorem dX11_row_153 : decode cX11_row 153 = .ok (.getfield 153, 3) := by decide +kernel
theorem dX11_row_156 : decode cX11_row 156 = .ok (.iload 4, 2) := by decide +kernel
theorem dX11_row_158 : decode cX11_row 158 = .ok (.ifCond .eq 7, 3) := by decide +kernel
theorem dX11_row_161 : decode cX11_row 161 = .ok (.iconst 0, 1) := by decide +kernel
theorem dX11_row_162 : decode cX11_row 162 = .ok (.goto 4, 3) := by decide +kernel
theorem dX11_row_165 : decode cX11_row 165 = .ok (.iconst 1, 1) := by decide +kernel
theorem dX11_row_166 : decode cX11_row 166 = .ok (.iadd, 1) := by decide +kernel
theorem dX11_row_167 : decode cX11_row 167 = .ok (.putfield 153, 3) := by decide +kernel
theorem dX11_row_170 : decode cX11_row 170 = .ok (.iinc 3 3, 3) := by decide +kernel
theorem dX11_row_173 : decode cX11_row 173 = .ok (.goto (-133), 3) := by decide +kernel
theorem dX11_row_176 : decode cX11_row 176 = .ok (.aload_n 0, 1) := by decide +kernel
theorem dX11_row_177 : decode cX11_row 177 = .ok (.iload_n 2, 1) := by decide +kernel
theorem dX11_row_178 : decode cX11_row 178 = .ok (.invokevirtual 118, 3) := by decide +kernel
theorem dX11_row_181 : decode cX11_row 181 = .ok (.ireturn, 1) := by decide +kernel
theorem dX11_crumbs_0 : decode cX11_crumbs 0 = .ok (.aload_n 0, 1) := by decide +kernel
theorem dX11_crumbs_1 : decode cX11_crumbs 1 = .ok (.getfield 153, 3) := by decide +kernel
theorem dX11_crumbs_4 : decode cX11_crumbs 4 = .ok (.ireturn, 1) := by decide +kernel
theorem dX11_feed_0 : decode cX11_feed 0 = .ok (.aload_n 0, 1) := by decide +kernel
theorem dX11_feed_1 : decode cX11_feed 1 = .ok (.getfield 150, 3) := by decide +kernel
theorem dX11_feed_4 : decode cX11_feed 4 = .ok (.bipush 20, 2) := by decide +kernel
theorem dX11_feed_6 : decode cX11_feed 6 = .ok (.iadd, 1) := by decide +kernel
theorem dX11_feed_7 : decode cX11_feed 7 = .ok (.sipush 400, 3) := by decide +kernel
theorem dX11_feed_10 : decode cX11_feed 10 = .ok (.if_icmp .le 5, 3) := by decide +kernel
theorem dX11_feed_13 : decode cX11_feed 13 = .ok (.iconst (-1), 1) := by decide +kernel
theorem dX11_feed_14 : decode cX11_feed 14 = .ok (.ireturn, 1) := by decide +kernel
theorem dX11_feed_15 : decode cX11_feed 15 = .ok (.aload_n 0, 1) := by decide +kernel
theorem dX11_feed_16 : decode cX11_feed 16 = .ok (.getfield 34, 3) := by decide +kernel
theorem dX11_feed_19 : decode cX11_feed 19 = .ok (.iconst 0, 1) := by decide +kernel
theorem dX11_feed_20 : decode cX11_feed 20 = .ok (.iload_n 1, 1) := by decide +kernel
theorem dX11_feed_21 : decode cX11_feed 21 = .ok (.iastore, 1) := by decide +kernel
theorem dX11_feed_22 : decode cX11_feed 22 = .ok (.aload_n 0, 1) := by decide +kernel
theorem dX11_feed_23 : decode cX11_feed 23 = .ok (.getfield 34, 3) := by decide +kernel
theorem dX11_feed_26 : decode cX11_feed 26 = .ok (.iconst 1, 1) := by decide +kernel
theorem dX11_feed_27 : decode cX11_feed 27 = .ok (.iload_n 2, 1) := by decide +kernel
theorem dX11_feed_28 : decode cX11_feed 28 = .ok (.iastore, 1) := by decide +kernel
theorem dX11_feed_29 : decode cX11_feed 29 = .ok (.aload_n 0, 1) := by decide +kernel
theorem dX11_feed_30 : decode cX11_feed 30 = .ok (.getfield 34, 3) := by decide +kernel
theorem dX11_feed_33 : decode cX11_feed 33 = .ok (.iconst 2, 1) := by decide +kernel
theorem dX11_feed_34 : decode cX11_feed 34 = .ok (.iload_n 3, 1) := by decide +kernel
theorem dX11_feed_35 : decode cX11_feed 35 = .ok (.iastore, 1) := by decide +kernel
theorem dX11_feed_36 : decode cX11_feed 36 = .ok (.aload_n 0, 1) := by decide +kernel
theorem dX11_feed_37 : decode cX11_feed 37 = .ok (.getfield 34, 3) := by decide +kernel
theorem dX11_feed_40 : decode cX11_feed 40 = .ok (.iconst 3, 1) := by decide +kernel
theorem dX11_feed_41 : decode cX11_feed 41 = .ok (.iload 4, 2) := by decide +kernel
theorem dX11_feed_43 : decode cX11_feed 43 = .ok (.iastore, 1) := by decide +kernel
theorem dX11_feed_44 : decode cX11_feed 44 = .ok (.aload_n 0, 1) := by decide +kernel
theorem dX11_feed_45 : decode cX11_feed 45 = .ok (.getfield 34, 3) := by decide +kernel
theorem dX11_feed_48 : decode cX11_feed 48 = .ok (.iconst 4, 1) := by decide +kernel
theorem dX11_feed_49 : decode cX11_feed 49 = .ok (.iload 5, 2) := by decide +kernel
theorem dX11_feed_51 : decode cX11_feed 51 = .ok (.iastore, 1) := by decide +kernel
theorem dX11_feed_52 : decode cX11_feed 52 = .ok (.iconst 0, 1) := by decide +kernel
theorem dX11_feed_53 : decode cX11_feed 53 = .ok (.istore 6, 2) := by decide +kernel
theorem dX11_feed_55 : decode cX11_feed 55 = .ok (.iload 6, 2) := by decide +kernel
theorem dX11_feed_57 : decode cX11_feed 57 = .ok (.bipush 20, 2) := by decide +kernel
theorem dX11_feed_59 : decode cX11_feed 59 = .ok (.if_icmp .ge 42, 3) := by decide +kernel
theorem dX11_feed_62 : decode cX11_feed 62 = .ok (.aload_n 0, 1) := by decide +kernel
theorem dX11_feed_63 : decode cX11_feed 63 = .ok (.getfield 31, 3) := by decide +kernel
theorem dX11_feed_66 : decode cX11_feed 66 = .ok (.aload_n 0, 1) := by decide +kernel
theorem dX11_feed_67 : decode cX11_feed 67 = .ok (.getfield 150, 3) := by decide +kernel
theorem dX11_feed_70 : decode cX11_feed 70 = .ok (.iload 6, 2) := by decide +kernel
theorem dX11_feed_72 : decode cX11_feed 72 = .ok (.iadd, 1) := by decide +kernel
theorem dX11_feed_73 : decode cX11_feed 73 = .ok (.aload_n 0, 1) := by decide +kernel
theorem dX11_feed_74 : decode cX11_feed 74 = .ok (.getfield 34, 3) := by decide +kernel
theorem dX11_feed_77 : decode cX11_feed 77 = .ok (.iload 6, 2) := by decide +kernel
theorem dX11_feed_79 : decode cX11_feed 79 = .ok (.iconst 4, 1) := by decide +kernel
theorem dX11_feed_80 : decode cX11_feed 80 = .ok (.idiv, 1) := by decide +kernel
theorem dX11_feed_81 : decode cX11_feed 81 = .ok (.iaload, 1) := by decide +kernel
theorem dX11_feed_82 : decode cX11_feed 82 = .ok (.bipush 24, 2) := by decide +kernel
theorem dX11_feed_84 : decode cX11_feed 84 = .ok (.bipush 8, 2) := by decide +kernel
theorem dX11_feed_86 : decode cX11_feed 86 = .ok (.iload 6, 2) := by decide +kernel
theorem dX11_feed_88 : decode cX11_feed 88 = .ok (.iconst 4, 1) := by decide +kernel
theorem dX11_feed_89 : decode cX11_feed 89 = .ok (.irem, 1) := by decide +kernel
theorem dX11_feed_90 : decode cX11_feed 90 = .ok (.imul, 1) := by decide +kernel
theorem dX11_feed_91 : decode cX11_feed 91 = .ok (.isub, 1) := by decide +kernel
theorem dX11_feed_92 : decode cX11_feed 92 = .ok (.ishr, 1) := by decide +kernel
theorem dX11_feed_93 : decode cX11_feed 93 = .ok (.i2b, 1) := by decide +kernel
theorem dX11_feed_94 : decode cX11_feed 94 = .ok (.bastore, 1) := by decide +kernel
theorem dX11_feed_95 : decode cX11_feed 95 = .ok (.iinc 6 1, 3) := by decide +kernel
theorem dX11_feed_98 : decode cX11_feed 98 = .ok (.goto (-43), 3) := by decide +kernel
theorem dX11_feed_101 : decode cX11_feed 101 = .ok (.aload_n 0, 1) := by decide +kernel
theorem dX11_feed_102 : decode cX11_feed 102 = .ok (.dup, 1) := by decide +kernel
theorem dX11_feed_103 : decode cX11_feed 103 = .ok (.getfield 150, 3) := by decide +kernel
theorem dX11_feed_106 : decode cX11_feed 106 = .ok (.bipush 20, 2) := by decide +kernel
theorem dX11_feed_108 : decode cX11_feed 108 = .ok (.iadd, 1) := by decide +kernel
theorem dX11_feed_109 : decode cX11_feed 109 = .ok (.putfield 150, 3) := by decide +kernel
theorem dX11_feed_112 : decode cX11_feed 112 = .ok (.aload_n 0, 1) := by decide +kernel
theorem dX11_feed_113 : decode cX11_feed 113 = .ok (.getfield 150, 3) := by decide +kernel
theorem dX11_feed_116 : decode cX11_feed 116 = .ok (.ireturn, 1) := by decide +kernel
theorem dX11_end_0 : decode cX11_end 0 = .ok (.iload_n 1, 1) := by decide +kernel
theorem dX11_end_1 : decode cX11_end 1 = .ok (.iconst 0, 1) := by decide +kernel
theorem dX11_end_2 : decode cX11_end 2 = .ok (.aload_n 0, 1) := by decide +kernel
theorem dX11_end_3 : decode cX11_end 3 = .ok (.getfield 150, 3) := by decide +kernel
theorem dX11_end_6 : decode cX11_end 6 = .ok (.invokestatic 110, 3) := by decide +kernel
theorem dX11_end_9 : decode cX11_end 9 = .ok (.ifCond .ne 5, 3) := by decide +kernel
theorem dX11_end_12 : decode cX11_end 12 = .ok (.iconst (-1), 1) := by decide +kernel
theorem dX11_end_13 : decode cX11_end 13 = .ok (.ireturn, 1) := by decide +kernel
theorem dX11_end_14 : decode cX11_end 14 = .ok (.aload_n 0, 1) := by decide +kernel
theorem dX11_end_15 : decode cX11_end 15 = .ok (.iload_n 1, 1) := by decide +kernel
theorem dX11_end_16 : decode cX11_end 16 = .ok (.putfield 150, 3) := by decide +kernel
theorem dX11_end_19 : decode cX11_end 19 = .ok (.iload_n 1, 1) := by decide +kernel
theorem dX11_end_20 : decode cX11_end 20 = .ok (.ireturn, 1) := by decide +kernel
theorem dX11_isSmall_0 : decode cX11_isSmall 0 = .ok (.iload_n 0, 1) := by decide +kernel
theorem dX11_isSmall_1 : decode cX11_isSmall 1 = .ok (.bipush 97, 2) := by decide +kernel
theorem dX11_isSmall_3 : decode cX11_isSmall 3 = .ok (.if_icmp .lt 13, 3) := by decide +kernel
theorem dX11_isSmall_6 : decode cX11_isSmall 6 = .ok (.iload_n 0, 1) := by decide +kernel
theorem dX11_isSmall_7 : decode cX11_isSmall 7 = .ok (.bipush 122, 2) := by decide +kernel
theorem dX11_isSmall_9 : decode cX11_isSmall 9 = .ok (.if_icmp .gt 7, 3) := by decide +kernel
theorem dX11_isSmall_12 : decode cX11_isSmall 12 = .ok (.iconst 1, 1) := by decide +kernel
theorem dX11_isSmall_13 : decode cX11_isSmall 13 = .ok (.goto 4, 3) := by decide +kernel
theorem dX11_isSmall_16 : decode cX11_isSmall 16 = .ok (.iconst 0, 1) := by decide +kernel
theorem dX11_isSmall_17 : decode cX11_isSmall 17 = .ok (.ireturn, 1) := by decide +kernel
theorem dX11_isDigit_0 : decode cX11_isDigit 0 = .ok (.iload_n 0, 1) := by decide +kernel
theorem dX11_isDigit_1 : decode cX11_isDigit 1 = .ok (.bipush 48, 2) := by decide +kernel
theorem dX11_isDigit_3 : decode cX11_isDigit 3 = .ok (.if_icmp .lt 13, 3) := by decide +kernel
theorem dX11_isDigit_6 : decode cX11_isDigit 6 = .ok (.iload_n 0, 1) := by decide +kernel
theorem dX11_isDigit_7 : decode cX11_isDigit 7 = .ok (.bipush 57, 2) := by decide +kernel
theorem dX11_isDigit_9 : decode cX11_isDigit 9 = .ok (.if_icmp .gt 7, 3) := by decide +kernel
theorem dX11_isDigit_12 : decode cX11_isDigit 12 = .ok (.iconst 1, 1) := by decide +kernel
theorem dX11_isDigit_13 : decode cX11_isDigit 13 = .ok (.goto 4, 3) := by decide +kernel
theorem dX11_isDigit_16 : decode cX11_isDigit 16 = .ok (.iconst 0, 1) := by decide +kernel
theorem dX11_isDigit_17 : decode cX11_isDigit 17 = .ok (.ireturn, 1) := by decide +kernel
theorem dX11_wordOf_0 : decode cX11_wordOf 0 = .ok (.iconst 1, 1) := by decide +kernel
theorem dX11_wordOf_1 : decode cX11_wordOf 1 = .ok (.istore_n 3, 1) := by decide +kernel
theorem dX11_wordOf_2 : decode cX11_wordOf 2 = .ok (.iconst 0, 1) := by decide +kernel
theorem dX11_wordOf_3 : decode cX11_wordOf 3 = .ok (.istore 4, 2) := by decide +kernel
theorem dX11_wordOf_5 : decode cX11_wordOf 5 = .ok (.iload 4, 2) := by decide +kernel
theorem dX11_wordOf_7 : decode cX11_wordOf 7 = .ok (.aload_n 0, 1) := by decide +kernel
theorem dX11_wordOf_8 : decode cX11_wordOf 8 = .ok (.getfield 27, 3) := by decide +kernel
theorem dX11_wordOf_11 : decode cX11_wordOf 11 = .ok (.arraylength, 1) := by decide +kernel
theorem dX11_wordOf_12 : decode cX11_wordOf 12 = .ok (.if_icmp .ge 114, 3) := by decide +kernel
theorem dX11_wordOf_15 : decode cX11_wordOf 15 = .ok (.iconst 0, 1) := by decide +kernel
theorem dX11_wordOf_16 : decode cX11_wordOf 16 = .ok (.istore 5, 2) := by decide +kernel
theorem dX11_wordOf_18 : decode cX11_wordOf 18 = .ok (.aload_n 0, 1) := by decide +kernel
theorem dX11_wordOf_19 : decode cX11_wordOf 19 = .ok (.getfield 27, 3) := by decide +kernel
theorem dX11_wordOf_22 : decode cX11_wordOf 22 = .ok (.iload 4, 2) := by decide +kernel
theorem dX11_wordOf_24 : decode cX11_wordOf 24 = .ok (.iload 5, 2) := by decide +kernel
theorem dX11_wordOf_26 : decode cX11_wordOf 26 = .ok (.iadd, 1) := by decide +kernel
theorem dX11_wordOf_27 : decode cX11_wordOf 27 = .ok (.baload, 1) := by decide +kernel
theorem dX11_wordOf_28 : decode cX11_wordOf 28 = .ok (.bipush 32, 2) := by decide +kernel
theorem dX11_wordOf_30 : decode cX11_wordOf 30 = .ok (.if_icmp .eq 9, 3) := by decide +kernel
theorem dX11_wordOf_33 : decode cX11_wordOf 33 = .ok (.iinc 5 1, 3) := by decide +kernel
theorem dX11_wordOf_36 : decode cX11_wordOf 36 = .ok (.goto (-18), 3) := by decide +kernel
theorem dX11_wordOf_39 : decode cX11_wordOf 39 = .ok (.iload 5, 2) := by decide +kernel
theorem dX11_wordOf_41 : decode cX11_wordOf 41 = .ok (.iload_n 2, 1) := by decide +kernel
theorem dX11_wordOf_42 : decode cX11_wordOf 42 = .ok (.iload_n 1, 1) := by decide +kernel
theorem dX11_wordOf_43 : decode cX11_wordOf 43 = .ok (.isub, 1) := by decide +kernel
theorem dX11_wordOf_44 : decode cX11_wordOf 44 = .ok (.if_icmp .ne 7, 3) := by decide +kernel
theorem dX11_wordOf_47 : decode cX11_wordOf 47 = .ok (.iconst 1, 1) := by decide +kernel
theorem dX11_wordOf_48 : decode cX11_wordOf 48 = .ok (.goto 4, 3) := by decide +kernel
theorem dX11_wordOf_51 : decode cX11_wordOf 51 = .ok (.iconst 0, 1) := by decide +kernel
theorem dX11_wordOf_52 : decode cX11_wordOf 52 = .ok (.istore 6, 2) := by decide +kernel
theorem dX11_wordOf_54 : decode cX11_wordOf 54 = .ok (.iconst 0, 1) := by decide +kernel
theorem dX11_wordOf_55 : decode cX11_wordOf 55 = .ok (.istore 7, 2) := by decide +kernel
theorem dX11_wordOf_57 : decode cX11_wordOf 57 = .ok (.iload 7, 2) := by decide +kernel
theorem dX11_wordOf_59 : decode cX11_wordOf 59 = .ok (.iload 5, 2) := by decide +kernel
theorem dX11_wordOf_61 : decode cX11_wordOf 61 = .ok (.if_icmp .ge 43, 3) := by decide +kernel
theorem dX11_wordOf_64 : decode cX11_wordOf 64 = .ok (.iload 6, 2) := by decide +kernel
theorem dX11_wordOf_66 : decode cX11_wordOf 66 = .ok (.ifCond .eq 38, 3) := by decide +kernel
theorem dX11_wordOf_69 : decode cX11_wordOf 69 = .ok (.aload_n 0, 1) := by decide +kernel
theorem dX11_wordOf_70 : decode cX11_wordOf 70 = .ok (.getfield 27, 3) := by decide +kernel
theorem dX11_wordOf_73 : decode cX11_wordOf 73 = .ok (.iload 4, 2) := by decide +kernel
theorem dX11_wordOf_75 : decode cX11_wordOf 75 = .ok (.iload 7, 2) := by decide +kernel
theorem dX11_wordOf_77 : decode cX11_wordOf 77 = .ok (.iadd, 1) := by decide +kernel
theorem dX11_wordOf_78 : decode cX11_wordOf 78 = .ok (.baload, 1) := by decide +kernel
theorem dX11_wordOf_79 : decode cX11_wordOf 79 = .ok (.aload_n 0, 1) := by decide +kernel
theorem dX11_wordOf_80 : decode cX11_wordOf 80 = .ok (.getfield 31, 3) := by decide +kernel
theorem dX11_wordOf_83 : decode cX11_wordOf 83 = .ok (.iload_n 1, 1) := by decide +kernel
theorem dX11_wordOf_84 : decode cX11_wordOf 84 = .ok (.iload 7, 2) := by decide +kernel
theorem dX11_wordOf_86 : decode cX11_wordOf 86 = .ok (.iadd, 1) := by decide +kernel
theorem dX11_wordOf_87 : decode cX11_wordOf 87 = .ok (.baload, 1) := by decide +kernel
theorem dX11_wordOf_88 : decode cX11_wordOf 88 = .ok (.if_icmp .ne 7, 3) := by decide +kernel
theorem dX11_wordOf_91 : decode cX11_wordOf 91 = .ok (.iconst 1, 1) := by decide +kernel
theorem dX11_wordOf_92 : decode cX11_wordOf 92 = .ok (.goto 4, 3) := by decide +kernel
theorem dX11_wordOf_95 : decode cX11_wordOf 95 = .ok (.iconst 0, 1) := by decide +kernel
theorem dX11_wordOf_96 : decode cX11_wordOf 96 = .ok (.istore 6, 2) := by decide +kernel
theorem dX11_wordOf_98 : decode cX11_wordOf 98 = .ok (.iinc 7 1, 3) := by decide +kernel
theorem dX11_wordOf_101 : decode cX11_wordOf 101 = .ok (.goto (-44), 3) := by decide +kernel
theorem dX11_wordOf_104 : decode cX11_wordOf 104 = .ok (.iload 6, 2) := by decide +kernel
theorem dX11_wordOf_106 : decode cX11_wordOf 106 = .ok (.ifCond .eq 5, 3) := by decide +kernel
theorem dX11_wordOf_109 : decode cX11_wordOf 109 = .ok (.iload_n 3, 1) := by decide +kernel
theorem dX11_wordOf_110 : decode cX11_wordOf 110 = .ok (.ireturn, 1) := by decide +kernel
theorem dX11_wordOf_111 : decode cX11_wordOf 111 = .ok (.iload 4, 2) := by decide +kernel
theorem dX11_wordOf_113 : decode cX11_wordOf 113 = .ok (.iload 5, 2) := by decide +kernel
theorem dX11_wordOf_115 : decode cX11_wordOf 115 = .ok (.iconst 1, 1) := by decide +kernel
theorem dX11_wordOf_116 : decode cX11_wordOf 116 = .ok (.iadd, 1) := by decide +kernel
theorem dX11_wordOf_117 : decode cX11_wordOf 117 = .ok (.iadd, 1) := by decide +kernel
theorem dX11_wordOf_118 : decode cX11_wordOf 118 = .ok (.istore 4, 2) := by decide +kernel
theorem dX11_wordOf_120 : decode cX11_wordOf 120 = .ok (.iinc 3 1, 3) := by decide +kernel
theorem dX11_wordOf_123 : decode cX11_wordOf 123 = .ok (.goto (-118), 3) := by decide +kernel
theorem dX11_wordOf_126 : decode cX11_wordOf 126 = .ok (.iconst 0, 1) := by decide +kernel
theorem dX11_wordOf_127 : decode cX11_wordOf 127 = .ok (.ireturn, 1) := by decide +kernel
theorem dX11_splits_0 : decode cX11_splits 0 = .ok (.aload_n 0, 1) := by decide +kernel
theorem dX11_splits_1 : decode cX11_splits 1 = .ok (.iconst 0, 1) := by decide +kernel
theorem dX11_splits_2 : decode cX11_splits 2 = .ok (.putfield 156, 3) := by decide +kernel
theorem dX11_splits_5 : decode cX11_splits 5 = .ok (.iconst 0, 1) := by decide +kernel
theorem dX11_splits_6 : decode cX11_splits 6 = .ok (.istore_n 2, 1) := by decide +kernel
theorem dX11_splits_7 : decode cX11_splits 7 = .ok (.iload_n 2, 1) := by decide +kernel
theorem dX11_splits_8 : decode cX11_splits 8 = .ok (.iload_n 1, 1) := by decide +kernel
theorem dX11_splits_9 : decode cX11_splits 9 = .ok (.if_icmp .ge 254, 3) := by decide +kernel
theorem dX11_splits_12 : decode cX11_splits 12 = .ok (.aload_n 0, 1) := by decide +kernel
theorem dX11_splits_13 : decode cX11_splits 13 = .ok (.getfield 31, 3) := by decide +kernel
theorem dX11_splits_16 : decode cX11_splits 16 = .ok (.iload_n 2, 1) := by decide +kernel
theorem dX11_splits_17 : decode cX11_splits 17 = .ok (.baload, 1) := by decide +kernel
theorem dX11_splits_18 : decode cX11_splits 18 = .ok (.istore_n 3, 1) := by decide +kernel
theorem dX11_splits_19 : decode cX11_splits 19 = .ok (.iload_n 3, 1) := by decide +kernel
theorem dX11_splits_20 : decode cX11_splits 20 = .ok (.bipush 32, 2) := by decide +kernel
theorem dX11_splits_22 : decode cX11_splits 22 = .ok (.if_icmp .ne 9, 3) := by decide +kernel
theorem dX11_splits_25 : decode cX11_splits 25 = .ok (.iinc 2 1, 3) := by decide +kernel
theorem dX11_splits_28 : decode cX11_splits 28 = .ok (.goto (-21), 3) := by decide +kernel
theorem dX11_splits_31 : decode cX11_splits 31 = .ok (.iload_n 2, 1) := by decide +kernel
theorem dX11_splits_32 : decode cX11_splits 32 = .ok (.iconst 1, 1) := by decide +kernel
theorem dX11_splits_33 : decode cX11_splits 33 = .ok (.iadd, 1) := by decide +kernel
theorem dX11_splits_34 : decode cX11_splits 34 = .ok (.istore 4, 2) := by decide +kernel
theorem dX11_splits_36 : decode cX11_splits 36 = .ok (.iload_n 3, 1) := by decide +kernel
theorem dX11_splits_37 : decode cX11_splits 37 = .ok (.invokestatic 159, 3) := by decide +kernel
theorem dX11_splits_40 : decode cX11_splits 40 = .ok (.ifCond .eq 28, 3) := by decide +kernel
theorem dX11_splits_43 : decode cX11_splits 43 = .ok (.iload 4, 2) := by decide +kernel
theorem dX11_splits_45 : decode cX11_splits 45 = .ok (.iload_n 1, 1) := by decide +kernel
theorem dX11_splits_46 : decode cX11_splits 46 = .ok (.if_icmp .ge 22, 3) := by decide +kernel
theorem dX11_splits_49 : decode cX11_splits 49 = .ok (.aload_n 0, 1) := by decide +kernel
theorem dX11_splits_50 : decode cX11_splits 50 = .ok (.getfield 31, 3) := by decide +kernel
theorem dX11_splits_53 : decode cX11_splits 53 = .ok (.iload 4, 2) := by decide +kernel
theorem dX11_splits_55 : decode cX11_splits 55 = .ok (.baload, 1) := by decide +kernel
theorem dX11_splits_56 : decode cX11_splits 56 = .ok (.invokestatic 159, 3) := by decide +kernel
theorem dX11_splits_59 : decode cX11_splits 59 = .ok (.ifCond .eq 9, 3) := by decide +kernel
theorem dX11_splits_62 : decode cX11_splits 62 = .ok (.iinc 4 1, 3) := by decide +kernel
theorem dX11_splits_65 : decode cX11_splits 65 = .ok (.goto (-22), 3) := by decide +kernel
theorem dX11_splits_68 : decode cX11_splits 68 = .ok (.iload_n 3, 1) := by decide +kernel
theorem dX11_splits_69 : decode cX11_splits 69 = .ok (.invokestatic 162, 3) := by decide +kernel
theorem dX11_splits_72 : decode cX11_splits 72 = .ok (.ifCond .eq 28, 3) := by decide +kernel
theorem dX11_splits_75 : decode cX11_splits 75 = .ok (.iload 4, 2) := by decide +kernel
theorem dX11_splits_77 : decode cX11_splits 77 = .ok (.iload_n 1, 1) := by decide +kernel
theorem dX11_splits_78 : decode cX11_splits 78 = .ok (.if_icmp .ge 22, 3) := by decide +kernel
theorem dX11_splits_81 : decode cX11_splits 81 = .ok (.aload_n 0, 1) := by decide +kernel
theorem dX11_splits_82 : decode cX11_splits 82 = .ok (.getfield 31, 3) := by decide +kernel
theorem dX11_splits_85 : decode cX11_splits 85 = .ok (.iload 4, 2) := by decide +kernel
theorem dX11_splits_87 : decode cX11_splits 87 = .ok (.baload, 1) := by decide +kernel
theorem dX11_splits_88 : decode cX11_splits 88 = .ok (.invokestatic 162, 3) := by decide +kernel
theorem dX11_splits_91 : decode cX11_splits 91 = .ok (.ifCond .eq 9, 3) := by decide +kernel
theorem dX11_splits_94 : decode cX11_splits 94 = .ok (.iinc 4 1, 3) := by decide +kernel
theorem dX11_splits_97 : decode cX11_splits 97 = .ok (.goto (-22), 3) := by decide +kernel
theorem dX11_splits_100 : decode cX11_splits 100 = .ok (.aload_n 0, 1) := by decide +kernel
theorem dX11_splits_101 : decode cX11_splits 101 = .ok (.getfield 46, 3) := by decide +kernel
theorem dX11_splits_104 : decode cX11_splits 104 = .ok (.aload_n 0, 1) := by decide +kernel
theorem dX11_splits_105 : decode cX11_splits 105 = .ok (.getfield 156, 3) := by decide +kernel
theorem dX11_splits_108 : decode cX11_splits 108 = .ok (.iload_n 2, 1) := by decide +kernel
theorem dX11_splits_109 : decode cX11_splits 109 = .ok (.iastore, 1) := by decide +kernel
theorem dX11_splits_110 : decode cX11_splits 110 = .ok (.aload_n 0, 1) := by decide +kernel
theorem dX11_splits_111 : decode cX11_splits 111 = .ok (.getfield 43, 3) := by decide +kernel
theorem dX11_splits_114 : decode cX11_splits 114 = .ok (.aload_n 0, 1) := by decide +kernel
theorem dX11_splits_115 : decode cX11_splits 115 = .ok (.getfield 156, 3) := by decide +kernel
theorem dX11_splits_118 : decode cX11_splits 118 = .ok (.iconst 0, 1) := by decide +kernel
theorem dX11_splits_119 : decode cX11_splits 119 = .ok (.iastore, 1) := by decide +kernel
theorem dX11_splits_120 : decode cX11_splits 120 = .ok (.aload_n 0, 1) := by decide +kernel
theorem dX11_splits_121 : decode cX11_splits 121 = .ok (.getfield 40, 3) := by decide +kernel
theorem dX11_splits_124 : decode cX11_splits 124 = .ok (.aload_n 0, 1) := by decide +kernel
theorem dX11_splits_125 : decode cX11_splits 125 = .ok (.getfield 156, 3) := by decide +kernel
theorem dX11_splits_128 : decode cX11_splits 128 = .ok (.iload_n 3, 1) := by decide +kernel
theorem dX11_splits_129 : decode cX11_splits 129 = .ok (.invokestatic 159, 3) := by decide +kernel
theorem dX11_splits_132 : decode cX11_splits 132 = .ok (.ifCond .eq 13, 3) := by decide +kernel
theorem dX11_splits_135 : decode cX11_splits 135 = .ok (.aload_n 0, 1) := by decide +kernel
theorem dX11_splits_136 : decode cX11_splits 136 = .ok (.iload_n 2, 1) := by decide +kernel
theorem dX11_splits_137 : decode cX11_splits 137 = .ok (.iload 4, 2) := by decide +kernel
theorem dX11_splits_139 : decode cX11_splits 139 = .ok (.invokevirtual 165, 3) := by decide +kernel
theorem dX11_splits_142 : decode cX11_splits 142 = .ok (.goto 23, 3) := by decide +kernel
theorem dX11_splits_145 : decode cX11_splits 145 = .ok (.iload_n 3, 1) := by decide +kernel
theorem dX11_splits_146 : decode cX11_splits 146 = .ok (.invokestatic 162, 3) := by decide +kernel
theorem dX11_splits_149 : decode cX11_splits 149 = .ok (.ifCond .eq 8, 3) := by decide +kernel
theorem dX11_splits_152 : decode cX11_splits 152 = .ok (.bipush 50, 2) := by decide +kernel
theorem dX11_splits_154 : decode cX11_splits 154 = .ok (.goto 11, 3) := by decide +kernel
theorem dX11_splits_157 : decode cX11_splits 157 = .ok (.bipush 100, 2) := by decide +kernel
theorem dX11_splits_159 : decode cX11_splits 159 = .ok (.iload_n 3, 1) := by decide +kernel
theorem dX11_splits_160 : decode cX11_splits 160 = .ok (.sipush 255, 3) := by decide +kernel
theorem dX11_splits_163 : decode cX11_splits 163 = .ok (.iand, 1) := by decide +kernel
theorem dX11_splits_164 : decode cX11_splits 164 = .ok (.iadd, 1) := by decide +kernel
theorem dX11_splits_165 : decode cX11_splits 165 = .ok (.iastore, 1) := by decide +kernel
theorem dX11_splits_166 : decode cX11_splits 166 = .ok (.iload_n 2, 1) := by decide +kernel
theorem dX11_splits_167 : decode cX11_splits 167 = .ok (.istore 5, 2) := by decide +kernel
theorem dX11_splits_169 : decode cX11_splits 169 = .ok (.iload 5, 2) := by decide +kernel
theorem dX11_splits_171 : decode cX11_splits 171 = .ok (.iload 4, 2) := by decide +kernel
theorem dX11_splits_173 : decode cX11_splits 173 = .ok (.if_icmp .ge 74, 3) := by decide +kernel
theorem dX11_splits_176 : decode cX11_splits 176 = .ok (.iload_n 3, 1) := by decide +kernel
theorem dX11_splits_177 : decode cX11_splits 177 = .ok (.invokestatic 162, 3) := by decide +kernel
theorem dX11_splits_180 : decode cX11_splits 180 = .ok (.ifCond .eq 67, 3) := by decide +kernel
theorem dX11_splits_183 : decode cX11_splits 183 = .ok (.aload_n 0, 1) := by decide +kernel
theorem dX11_splits_184 : decode cX11_splits 184 = .ok (.getfield 43, 3) := by decide +kernel
theorem dX11_splits_187 : decode cX11_splits 187 = .ok (.aload_n 0, 1) := by decide +kernel
theorem dX11_splits_188 : decode cX11_splits 188 = .ok (.getfield 156, 3) := by decide +kernel
theorem dX11_splits_191 : decode cX11_splits 191 = .ok (.aload_n 0, 1) := by decide +kernel
theorem dX11_splits_192 : decode cX11_splits 192 = .ok (.getfield 43, 3) := by decide +kernel
theorem dX11_splits_195 : decode cX11_splits 195 = .ok (.aload_n 0, 1) := by decide +kernel
theorem dX11_splits_196 : decode cX11_splits 196 = .ok (.getfield 156, 3) := by decide +kernel
theorem dX11_splits_199 : decode cX11_splits 199 = .ok (.iaload, 1) := by decide +kernel
theorem dX11_splits_200 : decode cX11_splits 200 = .ok (.ldc 168, 2) := by decide +kernel
theorem dX11_splits_202 : decode cX11_splits 202 = .ok (.if_icmp .le 15, 3) := by decide +kernel
theorem dX11_splits_205 : decode cX11_splits 205 = .ok (.aload_n 0, 1) := by decide +kernel
theorem dX11_splits_206 : decode cX11_splits 206 = .ok (.getfield 43, 3) := by decide +kernel
theorem dX11_splits_209 : decode cX11_splits 209 = .ok (.aload_n 0, 1) := by decide +kernel
theorem dX11_splits_210 : decode cX11_splits 210 = .ok (.getfield 156, 3) := by decide +kernel
theorem dX11_splits_213 : decode cX11_splits 213 = .ok (.iaload, 1) := by decide +kernel
theorem dX11_splits_214 : decode cX11_splits 214 = .ok (.goto 26, 3) := by decide +kernel
theorem dX11_splits_217 : decode cX11_splits 217 = .ok (.bipush 10, 2) := by decide +kernel
theorem dX11_splits_219 : decode cX11_splits 219 = .ok (.aload_n 0, 1) := by decide +kernel
theorem dX11_splits_220 : decode cX11_splits 220 = .ok (.getfield 43, 3) := by decide +kernel
theorem dX11_splits_223 : decode cX11_splits 223 = .ok (.aload_n 0, 1) := by decide +kernel
theorem dX11_splits_224 : decode cX11_splits 224 = .ok (.getfield 156, 3) := by decide +kernel
theorem dX11_splits_227 : decode cX11_splits 227 = .ok (.iaload, 1) := by decide +kernel
theorem dX11_splits_228 : decode cX11_splits 228 = .ok (.imul, 1) := by decide +kernel
theorem dX11_splits_229 : decode cX11_splits 229 = .ok (.aload_n 0, 1) := by decide +kernel
theorem dX11_splits_230 : decode cX11_splits 230 = .ok (.getfield 31, 3) := by decide +kernel
theorem dX11_splits_233 : decode cX11_splits 233 = .ok (.iload 5, 2) := by decide +kernel
theorem dX11_splits_235 : decode cX11_splits 235 = .ok (.baload, 1) := by decide +kernel
theorem dX11_splits_236 : decode cX11_splits 236 = .ok (.iadd, 1) := by decide +kernel
theorem dX11_splits_237 : decode cX11_splits 237 = .ok (.bipush 48, 2) := by decide +kernel
theorem dX11_splits_239 : decode cX11_splits 239 = .ok (.isub, 1) := by decide +kernel
theorem dX11_splits_240 : decode cX11_splits 240 = .ok (.iastore, 1) := by decide +kernel
theorem dX11_splits_241 : decode cX11_splits 241 = .ok (.iinc 5 1, 3) := by decide +kernel
theorem dX11_splits_244 : decode cX11_splits 244 = .ok (.goto (-75), 3) := by decide +kernel
theorem dX11_splits_247 : decode cX11_splits 247 = .ok (.aload_n 0, 1) := by decide +kernel
theorem dX11_splits_248 : decode cX11_splits 248 = .ok (.dup, 1) := by decide +kernel
theorem dX11_splits_249 : decode cX11_splits 249 = .ok (.getfield 156, 3) := by decide +kernel
theorem dX11_splits_252 : decode cX11_splits 252 = .ok (.iconst 1, 1) := by decide +kernel
theorem dX11_splits_253 : decode cX11_splits 253 = .ok (.iadd, 1) := by decide +kernel
theorem dX11_splits_254 : decode cX11_splits 254 = .ok (.putfield 156, 3) := by decide +kernel
theorem dX11_splits_257 : decode cX11_splits 257 = .ok (.iload 4, 2) := by decide +kernel
theorem dX11_splits_259 : decode cX11_splits 259 = .ok (.istore_n 2, 1) := by decide +kernel
theorem dX11_splits_260 : decode cX11_splits 260 = .ok (.goto (-253), 3) := by decide +kernel
theorem dX11_splits_263 : decode cX11_splits 263 = .ok (.aload_n 0, 1) := by decide +kernel
theorem dX11_splits_264 : decode cX11_splits 264 = .ok (.getfield 46, 3) := by decide +kernel
theorem dX11_splits_267 : decode cX11_splits 267 = .ok (.aload_n 0, 1) := by decide +kernel
theorem dX11_splits_268 : decode cX11_splits 268 = .ok (.getfield 156, 3) := by decide +kernel
theorem dX11_splits_271 : decode cX11_splits 271 = .ok (.iload_n 1, 1) := by decide +kernel
theorem dX11_splits_272 : decode cX11_splits 272 = .ok (.iastore, 1) := by decide +kernel
theorem dX11_splits_273 : decode cX11_splits 273 = .ok (.aload_n 0, 1) := by decide +kernel
theorem dX11_splits_274 : decode cX11_splits 274 = .ok (.getfield 40, 3) := by decide +kernel
theorem dX11_splits_277 : decode cX11_splits 277 = .ok (.aload_n 0, 1) := by decide +kernel
theorem dX11_splits_278 : decode cX11_splits 278 = .ok (.getfield 156, 3) := by decide +kernel
theorem dX11_splits_281 : decode cX11_splits 281 = .ok (.iconst 0, 1) := by decide +kernel
theorem dX11_splits_282 : decode cX11_splits 282 = .ok (.iastore, 1) := by decide +kernel
theorem dX11_splits_283 : decode cX11_splits 283 = .ok (.aload_n 0, 1) := by decide +kernel
theorem dX11_splits_284 : decode cX11_splits 284 = .ok (.getfield 43, 3) := by decide +kernel
theorem dX11_splits_287 : decode cX11_splits 287 = .ok (.aload_n 0, 1) := by decide +kernel
theorem dX11_splits_288 : decode cX11_splits 288 = .ok (.getfield 156, 3) := by decide +kernel
theorem dX11_splits_291 : decode cX11_splits 291 = .ok (.iconst 0, 1) := by decide +kernel
theorem dX11_splits_292 : decode cX11_splits 292 = .ok (.iastore, 1) := by decide +kernel
theorem dX11_splits_293 : decode cX11_splits 293 = .ok (.return_, 1) := by decide +kernel
theorem dX11_fine_0 : decode cX11_fine 0 = .ok (.aload_n 0, 1) := by decide +kernel
theorem dX11_fine_1 : decode cX11_fine 1 = .ok (.getfield 169, 3) := by decide +kernel
theorem dX11_fine_4 : decode cX11_fine 4 = .ok (.iconst (-1), 1) := by decide +kernel
theorem dX11_fine_5 : decode cX11_fine 5 = .ok (.if_icmp .ne 7, 3) := by decide +kernel
theorem dX11_fine_8 : decode cX11_fine 8 = .ok (.iconst 1, 1) := by decide +kernel
theorem dX11_fine_9 : decode cX11_fine 9 = .ok (.goto 4, 3) := by decide +kernel
theorem dX11_fine_12 : decode cX11_fine 12 = .ok (.iconst 0, 1) := by decide +kernel
theorem dX11_fine_13 : decode cX11_fine 13 = .ok (.ireturn, 1) := by decide +kernel
theorem dX11_faults_0 : decode cX11_faults 0 = .ok (.aload_n 0, 1) := by decide +kernel
theorem dX11_faults_1 : decode cX11_faults 1 = .ok (.invokevirtual 172, 3) := by decide +kernel
theorem dX11_faults_4 : decode cX11_faults 4 = .ok (.ifCond .eq 16, 3) := by decide +kernel
theorem dX11_faults_7 : decode cX11_faults 7 = .ok (.aload_n 0, 1) := by decide +kernel
theorem dX11_faults_8 : decode cX11_faults 8 = .ok (.aload_n 0, 1) := by decide +kernel
theorem dX11_faults_9 : decode cX11_faults 9 = .ok (.getfield 46, 3) := by decide +kernel
theorem dX11_faults_12 : decode cX11_faults 12 = .ok (.aload_n 0, 1) := by decide +kernel
theorem dX11_faults_13 : decode cX11_faults 13 = .ok (.getfield 176, 3) := by decide +kernel
theorem dX11_faults_16 : decode cX11_faults 16 = .ok (.iaload, 1) := by decide +kernel
theorem dX11_faults_17 : decode cX11_faults 17 = .ok (.putfield 169, 3) := by decide +kernel
theorem dX11_faults_20 : decode cX11_faults 20 = .ok (.return_, 1) := by decide +kernel
theorem dX11_takes0_0 : decode cX11_takes0 0 = .ok (.aload_n 0, 1) := by decide +kernel
theorem dX11_takes0_1 : decode cX11_takes0 1 = .ok (.invokevirtual 172, 3) := by decide +kernel
theorem dX11_takes0_4 : decode cX11_takes0 4 = .ok (.ifCond .eq 20, 3) := by decide +kernel
theorem dX11_takes0_7 : decode cX11_takes0 7 = .ok (.aload_n 0, 1) := by decide +kernel
theorem dX11_takes0_8 : decode cX11_takes0 8 = .ok (.getfield 40, 3) := by decide +kernel
theorem dX11_takes0_11 : decode cX11_takes0 11 = .ok (.aload_n 0, 1) := by decide +kernel
theorem dX11_takes0_12 : decode cX11_takes0 12 = .ok (.getfield 176, 3) := by decide +kernel
theorem dX11_takes0_15 : decode cX11_takes0 15 = .ok (.iaload, 1) := by decide +kernel
theorem dX11_takes0_16 : decode cX11_takes0 16 = .ok (.iload_n 1, 1) := by decide +kernel
theorem dX11_takes0_17 : decode cX11_takes0 17 = .ok (.if_icmp .ne 7, 3) := by decide +kernel
theorem dX11_takes0_20 : decode cX11_takes0 20 = .ok (.iconst 1, 1) := by decide +kernel
theorem dX11_takes0_21 : decode cX11_takes0 21 = .ok (.goto 4, 3) := by decide +kernel
theorem dX11_takes0_24 : decode cX11_takes0 24 = .ok (.iconst 0, 1) := by decide +kernel
theorem dX11_takes0_25 : decode cX11_takes0 25 = .ok (.istore_n 2, 1) := by decide +kernel
theorem dX11_takes0_26 : decode cX11_takes0 26 = .ok (.iload_n 2, 1) := by decide +kernel
theorem dX11_takes0_27 : decode cX11_takes0 27 = .ok (.ifCond .eq 13, 3) := by decide +kernel
theorem dX11_takes0_30 : decode cX11_takes0 30 = .ok (.aload_n 0, 1) := by decide +kernel
theorem dX11_takes0_31 : decode cX11_takes0 31 = .ok (.dup, 1) := by decide +kernel
theorem dX11_takes0_32 : decode cX11_takes0 32 = .ok (.getfield 176, 3) := by decide +kernel
theorem dX11_takes0_35 : decode cX11_takes0 35 = .ok (.iconst 1, 1) := by decide +kernel
theorem dX11_takes0_36 : decode cX11_takes0 36 = .ok (.iadd, 1) := by decide +kernel
theorem dX11_takes0_37 : decode cX11_takes0 37 = .ok (.putfield 176, 3) := by decide +kernel
theorem dX11_takes0_40 : decode cX11_takes0 40 = .ok (.iload_n 2, 1) := by decide +kernel
theorem dX11_takes0_41 : decode cX11_takes0 41 = .ok (.ireturn, 1) := by decide +kernel
theorem dX11_must_0 : decode cX11_must 0 = .ok (.aload_n 0, 1) := by decide +kernel
theorem dX11_must_1 : decode cX11_must 1 = .ok (.iload_n 1, 1) := by decide +kernel
theorem dX11_must_2 : decode cX11_must 2 = .ok (.invokevirtual 179, 3) := by decide +kernel
theorem dX11_must_5 : decode cX11_must 5 = .ok (.ifCond .ne 7, 3) := by decide +kernel
theorem dX11_must_8 : decode cX11_must 8 = .ok (.aload_n 0, 1) := by decide +kernel
theorem dX11_must_9 : decode cX11_must 9 = .ok (.invokevirtual 182, 3) := by decide +kernel
theorem dX11_must_12 : decode cX11_must 12 = .ok (.return_, 1) := by decide +kernel
theorem dX11_leaf_0 : decode cX11_leaf 0 = .ok (.aload_n 0, 1) := by decide +kernel
theorem dX11_leaf_1 : decode cX11_leaf 1 = .ok (.getfield 185, 3) := by decide +kernel
theorem dX11_leaf_4 : decode cX11_leaf 4 = .ok (.bipush 50, 2) := by decide +kernel
theorem dX11_leaf_6 : decode cX11_leaf 6 = .ok (.if_icmp .ne 7, 3) := by decide +kernel
theorem dX11_leaf_9 : decode cX11_leaf 9 = .ok (.aload_n 0, 1) := by decide +kernel
theorem dX11_leaf_10 : decode cX11_leaf 10 = .ok (.invokevirtual 182, 3) := by decide +kernel
theorem dX11_leaf_13 : decode cX11_leaf 13 = .ok (.aload_n 0, 1) := by decide +kernel
theorem dX11_leaf_14 : decode cX11_leaf 14 = .ok (.dup, 1) := by decide +kernel
theorem dX11_leaf_15 : decode cX11_leaf 15 = .ok (.getfield 185, 3) := by decide +kernel
theorem dX11_leaf_18 : decode cX11_leaf 18 = .ok (.iconst 1, 1) := by decide +kernel
theorem dX11_leaf_19 : decode cX11_leaf 19 = .ok (.iadd, 1) := by decide +kernel
theorem dX11_leaf_20 : decode cX11_leaf 20 = .ok (.putfield 185, 3) := by decide +kernel
theorem dX11_leaf_23 : decode cX11_leaf 23 = .ok (.aload_n 0, 1) := by decide +kernel
theorem dX11_leaf_24 : decode cX11_leaf 24 = .ok (.invokevirtual 172, 3) := by decide +kernel
theorem dX11_leaf_27 : decode cX11_leaf 27 = .ok (.ifCond .eq 13, 3) := by decide +kernel
theorem dX11_leaf_30 : decode cX11_leaf 30 = .ok (.aload_n 0, 1) := by decide +kernel
theorem dX11_leaf_31 : decode cX11_leaf 31 = .ok (.dup, 1) := by decide +kernel
theorem dX11_leaf_32 : decode cX11_leaf 32 = .ok (.getfield 176, 3) := by decide +kernel
theorem dX11_leaf_35 : decode cX11_leaf 35 = .ok (.iconst 1, 1) := by decide +kernel
theorem dX11_leaf_36 : decode cX11_leaf 36 = .ok (.iadd, 1) := by decide +kernel
theorem dX11_leaf_37 : decode cX11_leaf 37 = .ok (.putfield 176, 3) := by decide +kernel
theorem dX11_leaf_40 : decode cX11_leaf 40 = .ok (.return_, 1) := by decide +kernel
theorem dX11_sign_0 : decode cX11_sign 0 = .ok (.bipush 100, 2) := by decide +kernel
theorem dX11_sign_2 : decode cX11_sign 2 = .ok (.iload_n 0, 1) := by decide +kernel
theorem dX11_sign_3 : decode cX11_sign 3 = .ok (.iadd, 1) := by decide +kernel
theorem dX11_sign_4 : decode cX11_sign 4 = .ok (.ireturn, 1) := by decide +kernel
theorem dX11_readClause_0 : decode cX11_readClause 0 = .ok (.aload_n 0, 1) := by decide +kernel
theorem dX11_readClause_1 : decode cX11_readClause 1 = .ok (.iconst 1, 1) := by decide +kernel
theorem dX11_readClause_2 : decode cX11_readClause 2 = .ok (.invokevirtual 179, 3) := by decide +kernel
theorem dX11_readClause_5 : decode cX11_readClause 5 = .ok (.ifCond .eq 11, 3) := by decide +kernel
theorem dX11_readClause_8 : decode cX11_readClause 8 = .ok (.aload_n 0, 1) := by decide +kernel
theorem dX11_readClause_9 : decode cX11_readClause 9 = .ok (.iconst 0, 1) := by decide +kernel
theorem dX11_readClause_10 : decode cX11_readClause 10 = .ok (.invokevirtual 188, 3) := by decide +kernel
theorem dX11_readClause_13 : decode cX11_readClause 13 = .ok (.goto 8, 3) := by decide +kernel
theorem dX11_readClause_16 : decode cX11_readClause 16 = .ok (.aload_n 0, 1) := by decide +kernel
theorem dX11_readClause_17 : decode cX11_readClause 17 = .ok (.iconst 2, 1) := by decide +kernel
theorem dX11_readClause_18 : decode cX11_readClause 18 = .ok (.invokevirtual 191, 3) := by decide +kernel
theorem dX11_readClause_21 : decode cX11_readClause 21 = .ok (.aload_n 0, 1) := by decide +kernel
theorem dX11_readClause_22 : decode cX11_readClause 22 = .ok (.iconst 3, 1) := by decide +kernel
theorem dX11_readClause_23 : decode cX11_readClause 23 = .ok (.invokevirtual 179, 3) := by decide +kernel
theorem dX11_readClause_26 : decode cX11_readClause 26 = .ok (.ifCond .eq 8, 3) := by decide +kernel
theorem dX11_readClause_29 : decode cX11_readClause 29 = .ok (.aload_n 0, 1) := by decide +kernel
theorem dX11_readClause_30 : decode cX11_readClause 30 = .ok (.iconst 0, 1) := by decide +kernel
theorem dX11_readClause_31 : decode cX11_readClause 31 = .ok (.invokevirtual 194, 3) := by decide +kernel
theorem dX11_readClause_34 : decode cX11_readClause 34 = .ok (.return_, 1) := by decide +kernel
theorem dX11_readTest_0 : decode cX11_readTest 0 = .ok (.aload_n 0, 1) := by decide +kernel
theorem dX11_readTest_1 : decode cX11_readTest 1 = .ok (.iload_n 1, 1) := by decide +kernel
theorem dX11_readTest_2 : decode cX11_readTest 2 = .ok (.invokevirtual 197, 3) := by decide +kernel
theorem dX11_readTest_5 : decode cX11_readTest 5 = .ok (.aload_n 0, 1) := by decide +kernel
theorem dX11_readTest_6 : decode cX11_readTest 6 = .ok (.iconst 4, 1) := by decide +kernel
theorem dX11_readTest_7 : decode cX11_readTest 7 = .ok (.invokevirtual 179, 3) := by decide +kernel
theorem dX11_readTest_10 : decode cX11_readTest 10 = .ok (.ifCond .eq 11, 3) := by decide +kernel
theorem dX11_readTest_13 : decode cX11_readTest 13 = .ok (.aload_n 0, 1) := by decide +kernel
theorem dX11_readTest_14 : decode cX11_readTest 14 = .ok (.iload_n 1, 1) := by decide +kernel
theorem dX11_readTest_15 : decode cX11_readTest 15 = .ok (.invokevirtual 197, 3) := by decide +kernel
theorem dX11_readTest_18 : decode cX11_readTest 18 = .ok (.goto (-13), 3) := by decide +kernel
theorem dX11_readTest_21 : decode cX11_readTest 21 = .ok (.return_, 1) := by decide +kernel
theorem dX11_readBoth_0 : decode cX11_readBoth 0 = .ok (.aload_n 0, 1) := by decide +kernel
theorem dX11_readBoth_1 : decode cX11_readBoth 1 = .ok (.iload_n 1, 1) := by decide +kernel
theorem dX11_readBoth_2 : decode cX11_readBoth 2 = .ok (.invokevirtual 200, 3) := by decide +kernel
theorem dX11_readBoth_5 : decode cX11_readBoth 5 = .ok (.aload_n 0, 1) := by decide +kernel
theorem dX11_readBoth_6 : decode cX11_readBoth 6 = .ok (.iconst 5, 1) := by decide +kernel
theorem dX11_readBoth_7 : decode cX11_readBoth 7 = .ok (.invokevirtual 179, 3) := by decide +kernel
theorem dX11_readBoth_10 : decode cX11_readBoth 10 = .ok (.ifCond .eq 11, 3) := by decide +kernel
theorem dX11_readBoth_13 : decode cX11_readBoth 13 = .ok (.aload_n 0, 1) := by decide +kernel
theorem dX11_readBoth_14 : decode cX11_readBoth 14 = .ok (.iload_n 1, 1) := by decide +kernel
theorem dX11_readBoth_15 : decode cX11_readBoth 15 = .ok (.invokevirtual 200, 3) := by decide +kernel
theorem dX11_readBoth_18 : decode cX11_readBoth 18 = .ok (.goto (-13), 3) := by decide +kernel
theorem dX11_readBoth_21 : decode cX11_readBoth 21 = .ok (.return_, 1) := by decide +kernel
theorem dX11_readPlain_0 : decode cX11_readPlain 0 = .ok (.iconst 1, 1) := by decide +kernel
theorem dX11_readPlain_1 : decode cX11_readPlain 1 = .ok (.istore_n 2, 1) := by decide +kernel
theorem dX11_readPlain_2 : decode cX11_readPlain 2 = .ok (.iload_n 2, 1) := by decide +kernel
theorem dX11_readPlain_3 : decode cX11_readPlain 3 = .ok (.ifCond .eq 13, 3) := by decide +kernel
theorem dX11_readPlain_6 : decode cX11_readPlain 6 = .ok (.aload_n 0, 1) := by decide +kernel
theorem dX11_readPlain_7 : decode cX11_readPlain 7 = .ok (.bipush 6, 2) := by decide +kernel
theorem dX11_readPlain_9 : decode cX11_readPlain 9 = .ok (.invokevirtual 179, 3) := by decide +kernel
theorem dX11_readPlain_12 : decode cX11_readPlain 12 = .ok (.istore_n 2, 1) := by decide +kernel
theorem dX11_readPlain_13 : decode cX11_readPlain 13 = .ok (.goto (-11), 3) := by decide +kernel
theorem dX11_readPlain_16 : decode cX11_readPlain 16 = .ok (.aload_n 0, 1) := by decide +kernel
theorem dX11_readPlain_17 : decode cX11_readPlain 17 = .ok (.invokevirtual 172, 3) := by decide +kernel
theorem dX11_readPlain_20 : decode cX11_readPlain 20 = .ok (.ifCond .ne 4, 3) := by decide +kernel
theorem dX11_readPlain_23 : decode cX11_readPlain 23 = .ok (.return_, 1) := by decide +kernel
theorem dX11_readPlain_24 : decode cX11_readPlain 24 = .ok (.aload_n 0, 1) := by decide +kernel
theorem dX11_readPlain_25 : decode cX11_readPlain 25 = .ok (.getfield 40, 3) := by decide +kernel
theorem dX11_readPlain_28 : decode cX11_readPlain 28 = .ok (.aload_n 0, 1) := by decide +kernel
theorem dX11_readPlain_29 : decode cX11_readPlain 29 = .ok (.getfield 176, 3) := by decide +kernel
theorem dX11_readPlain_32 : decode cX11_readPlain 32 = .ok (.iaload, 1) := by decide +kernel
theorem dX11_readPlain_33 : decode cX11_readPlain 33 = .ok (.istore_n 3, 1) := by decide +kernel
theorem dX11_readPlain_34 : decode cX11_readPlain 34 = .ok (.iload_n 3, 1) := by decide +kernel
theorem dX11_readPlain_35 : decode cX11_readPlain 35 = .ok (.bipush 40, 2) := by decide +kernel
theorem dX11_readPlain_37 : decode cX11_readPlain 37 = .ok (.invokestatic 203, 3) := by decide +kernel
theorem dX11_readPlain_40 : decode cX11_readPlain 40 = .ok (.if_icmp .ne 50, 3) := by decide +kernel
theorem dX11_readPlain_43 : decode cX11_readPlain 43 = .ok (.iload_n 1, 1) := by decide +kernel
theorem dX11_readPlain_44 : decode cX11_readPlain 44 = .ok (.bipush 8, 2) := by decide +kernel
theorem dX11_readPlain_46 : decode cX11_readPlain 46 = .ok (.if_icmp .ne 7, 3) := by decide +kernel
theorem dX11_readPlain_49 : decode cX11_readPlain 49 = .ok (.aload_n 0, 1) := by decide +kernel
theorem dX11_readPlain_50 : decode cX11_readPlain 50 = .ok (.invokevirtual 182, 3) := by decide +kernel
theorem dX11_readPlain_53 : decode cX11_readPlain 53 = .ok (.aload_n 0, 1) := by decide +kernel
theorem dX11_readPlain_54 : decode cX11_readPlain 54 = .ok (.invokevirtual 172, 3) := by decide +kernel
theorem dX11_readPlain_57 : decode cX11_readPlain 57 = .ok (.ifCond .ne 4, 3) := by decide +kernel
theorem dX11_readPlain_60 : decode cX11_readPlain 60 = .ok (.return_, 1) := by decide +kernel
theorem dX11_readPlain_61 : decode cX11_readPlain 61 = .ok (.aload_n 0, 1) := by decide +kernel
theorem dX11_readPlain_62 : decode cX11_readPlain 62 = .ok (.dup, 1) := by decide +kernel
theorem dX11_readPlain_63 : decode cX11_readPlain 63 = .ok (.getfield 176, 3) := by decide +kernel
theorem dX11_readPlain_66 : decode cX11_readPlain 66 = .ok (.iconst 1, 1) := by decide +kernel
theorem dX11_readPlain_67 : decode cX11_readPlain 67 = .ok (.iadd, 1) := by decide +kernel
theorem dX11_readPlain_68 : decode cX11_readPlain 68 = .ok (.putfield 176, 3) := by decide +kernel
theorem dX11_readPlain_71 : decode cX11_readPlain 71 = .ok (.aload_n 0, 1) := by decide +kernel
theorem dX11_readPlain_72 : decode cX11_readPlain 72 = .ok (.iload_n 1, 1) := by decide +kernel
theorem dX11_readPlain_73 : decode cX11_readPlain 73 = .ok (.iconst 1, 1) := by decide +kernel
theorem dX11_readPlain_74 : decode cX11_readPlain 74 = .ok (.iadd, 1) := by decide +kernel
theorem dX11_readPlain_75 : decode cX11_readPlain 75 = .ok (.invokevirtual 194, 3) := by decide +kernel
theorem dX11_readPlain_78 : decode cX11_readPlain 78 = .ok (.aload_n 0, 1) := by decide +kernel
theorem dX11_readPlain_79 : decode cX11_readPlain 79 = .ok (.bipush 41, 2) := by decide +kernel
theorem dX11_readPlain_81 : decode cX11_readPlain 81 = .ok (.invokestatic 203, 3) := by decide +kernel
theorem dX11_readPlain_84 : decode cX11_readPlain 84 = .ok (.invokevirtual 191, 3) := by decide +kernel
theorem dX11_readPlain_87 : decode cX11_readPlain 87 = .ok (.goto 46, 3) := by decide +kernel
theorem dX11_readPlain_90 : decode cX11_readPlain 90 = .ok (.aload_n 0, 1) := by decide +kernel
theorem dX11_readPlain_91 : decode cX11_readPlain 91 = .ok (.iload_n 1, 1) := by decide +kernel
theorem dX11_readPlain_92 : decode cX11_readPlain 92 = .ok (.invokevirtual 188, 3) := by decide +kernel
theorem dX11_readPlain_95 : decode cX11_readPlain 95 = .ok (.aload_n 0, 1) := by decide +kernel
theorem dX11_readPlain_96 : decode cX11_readPlain 96 = .ok (.bipush 60, 2) := by decide +kernel
theorem dX11_readPlain_98 : decode cX11_readPlain 98 = .ok (.invokestatic 203, 3) := by decide +kernel
theorem dX11_readPlain_101 : decode cX11_readPlain 101 = .ok (.invokevirtual 179, 3) := by decide +kernel
theorem dX11_readPlain_104 : decode cX11_readPlain 104 = .ok (.ifCond .ne 24, 3) := by decide +kernel
theorem dX11_readPlain_107 : decode cX11_readPlain 107 = .ok (.aload_n 0, 1) := by decide +kernel
theorem dX11_readPlain_108 : decode cX11_readPlain 108 = .ok (.bipush 62, 2) := by decide +kernel
theorem dX11_readPlain_110 : decode cX11_readPlain 110 = .ok (.invokestatic 203, 3) := by decide +kernel
theorem dX11_readPlain_113 : decode cX11_readPlain 113 = .ok (.invokevirtual 179, 3) := by decide +kernel
theorem dX11_readPlain_116 : decode cX11_readPlain 116 = .ok (.ifCond .ne 12, 3) := by decide +kernel
theorem dX11_readPlain_119 : decode cX11_readPlain 119 = .ok (.aload_n 0, 1) := by decide +kernel
theorem dX11_readPlain_120 : decode cX11_readPlain 120 = .ok (.bipush 61, 2) := by decide +kernel
theorem dX11_readPlain_122 : decode cX11_readPlain 122 = .ok (.invokestatic 203, 3) := by decide +kernel
theorem dX11_readPlain_125 : decode cX11_readPlain 125 = .ok (.invokevirtual 191, 3) := by decide +kernel
theorem dX11_readPlain_128 : decode cX11_readPlain 128 = .ok (.aload_n 0, 1) := by decide +kernel
theorem dX11_readPlain_129 : decode cX11_readPlain 129 = .ok (.iload_n 1, 1) := by decide +kernel
theorem dX11_readPlain_130 : decode cX11_readPlain 130 = .ok (.invokevirtual 188, 3) := by decide +kernel
theorem dX11_readPlain_133 : decode cX11_readPlain 133 = .ok (.return_, 1) := by decide +kernel
theorem dX11_readSum_0 : decode cX11_readSum 0 = .ok (.aload_n 0, 1) := by decide +kernel
theorem dX11_readSum_1 : decode cX11_readSum 1 = .ok (.iload_n 1, 1) := by decide +kernel
theorem dX11_readSum_2 : decode cX11_readSum 2 = .ok (.invokevirtual 207, 3) := by decide +kernel
theorem dX11_readSum_5 : decode cX11_readSum 5 = .ok (.aload_n 0, 1) := by decide +kernel
theorem dX11_readSum_6 : decode cX11_readSum 6 = .ok (.bipush 43, 2) := by decide +kernel
theorem dX11_readSum_8 : decode cX11_readSum 8 = .ok (.invokestatic 203, 3) := by decide +kernel
theorem dX11_readSum_11 : decode cX11_readSum 11 = .ok (.invokevirtual 179, 3) := by decide +kernel
theorem dX11_readSum_14 : decode cX11_readSum 14 = .ok (.ifCond .ne 15, 3) := by decide +kernel
theorem dX11_readSum_17 : decode cX11_readSum 17 = .ok (.aload_n 0, 1) := by decide +kernel
theorem dX11_readSum_18 : decode cX11_readSum 18 = .ok (.bipush 45, 2) := by decide +kernel
theorem dX11_readSum_20 : decode cX11_readSum 20 = .ok (.invokestatic 203, 3) := by decide +kernel
theorem dX11_readSum_23 : decode cX11_readSum 23 = .ok (.invokevirtual 179, 3) := by decide +kernel
theorem dX11_readSum_26 : decode cX11_readSum 26 = .ok (.ifCond .eq 11, 3) := by decide +kernel
theorem dX11_readSum_29 : decode cX11_readSum 29 = .ok (.aload_n 0, 1) := by decide +kernel
theorem dX11_readSum_30 : decode cX11_readSum 30 = .ok (.iload_n 1, 1) := by decide +kernel
theorem dX11_readSum_31 : decode cX11_readSum 31 = .ok (.invokevirtual 207, 3) := by decide +kernel
theorem dX11_readSum_34 : decode cX11_readSum 34 = .ok (.goto (-29), 3) := by decide +kernel
theorem dX11_readSum_37 : decode cX11_readSum 37 = .ok (.return_, 1) := by decide +kernel
theorem dX11_readTerm_0 : decode cX11_readTerm 0 = .ok (.aload_n 0, 1) := by decide +kernel
theorem dX11_readTerm_1 : decode cX11_readTerm 1 = .ok (.iload_n 1, 1) := by decide +kernel
theorem dX11_readTerm_2 : decode cX11_readTerm 2 = .ok (.invokevirtual 210, 3) := by decide +kernel
theorem dX11_readTerm_5 : decode cX11_readTerm 5 = .ok (.aload_n 0, 1) := by decide +kernel
theorem dX11_readTerm_6 : decode cX11_readTerm 6 = .ok (.bipush 42, 2) := by decide +kernel
theorem dX11_readTerm_8 : decode cX11_readTerm 8 = .ok (.invokestatic 203, 3) := by decide +kernel
theorem dX11_readTerm_11 : decode cX11_readTerm 11 = .ok (.invokevirtual 179, 3) := by decide +kernel
theorem dX11_readTerm_14 : decode cX11_readTerm 14 = .ok (.ifCond .ne 15, 3) := by decide +kernel
theorem dX11_readTerm_17 : decode cX11_readTerm 17 = .ok (.aload_n 0, 1) := by decide +kernel
theorem dX11_readTerm_18 : decode cX11_readTerm 18 = .ok (.bipush 47, 2) := by decide +kernel
theorem dX11_readTerm_20 : decode cX11_readTerm 20 = .ok (.invokestatic 203, 3) := by decide +kernel
theorem dX11_readTerm_23 : decode cX11_readTerm 23 = .ok (.invokevirtual 179, 3) := by decide +kernel
theorem dX11_readTerm_26 : decode cX11_readTerm 26 = .ok (.ifCond .eq 11, 3) := by decide +kernel
theorem dX11_readTerm_29 : decode cX11_readTerm 29 = .ok (.aload_n 0, 1) := by decide +kernel
theorem dX11_readTerm_30 : decode cX11_readTerm 30 = .ok (.iload_n 1, 1) := by decide +kernel
theorem dX11_readTerm_31 : decode cX11_readTerm 31 = .ok (.invokevirtual 210, 3) := by decide +kernel
theorem dX11_readTerm_34 : decode cX11_readTerm 34 = .ok (.goto (-29), 3) := by decide +kernel
theorem dX11_readTerm_37 : decode cX11_readTerm 37 = .ok (.return_, 1) := by decide +kernel
theorem dX11_readPart_0 : decode cX11_readPart 0 = .ok (.aload_n 0, 1) := by decide +kernel
theorem dX11_readPart_1 : decode cX11_readPart 1 = .ok (.invokevirtual 172, 3) := by decide +kernel
theorem dX11_readPart_4 : decode cX11_readPart 4 = .ok (.ifCond .ne 4, 3) := by decide +kernel
theorem dX11_readPart_7 : decode cX11_readPart 7 = .ok (.return_, 1) := by decide +kernel
theorem dX11_readPart_8 : decode cX11_readPart 8 = .ok (.aload_n 0, 1) := by decide +kernel
theorem dX11_readPart_9 : decode cX11_readPart 9 = .ok (.getfield 40, 3) := by decide +kernel
theorem dX11_readPart_12 : decode cX11_readPart 12 = .ok (.aload_n 0, 1) := by decide +kernel
theorem dX11_readPart_13 : decode cX11_readPart 13 = .ok (.getfield 176, 3) := by decide +kernel
theorem dX11_readPart_16 : decode cX11_readPart 16 = .ok (.iaload, 1) := by decide +kernel
theorem dX11_readPart_17 : decode cX11_readPart 17 = .ok (.istore_n 2, 1) := by decide +kernel
theorem dX11_readPart_18 : decode cX11_readPart 18 = .ok (.iload_n 2, 1) := by decide +kernel
theorem dX11_readPart_19 : decode cX11_readPart 19 = .ok (.bipush 91, 2) := by decide +kernel
theorem dX11_readPart_21 : decode cX11_readPart 21 = .ok (.invokestatic 203, 3) := by decide +kernel
theorem dX11_readPart_24 : decode cX11_readPart 24 = .ok (.if_icmp .ne 50, 3) := by decide +kernel
theorem dX11_readPart_27 : decode cX11_readPart 27 = .ok (.iload_n 1, 1) := by decide +kernel
theorem dX11_readPart_28 : decode cX11_readPart 28 = .ok (.bipush 8, 2) := by decide +kernel
theorem dX11_readPart_30 : decode cX11_readPart 30 = .ok (.if_icmp .ne 7, 3) := by decide +kernel
theorem dX11_readPart_33 : decode cX11_readPart 33 = .ok (.aload_n 0, 1) := by decide +kernel
theorem dX11_readPart_34 : decode cX11_readPart 34 = .ok (.invokevirtual 182, 3) := by decide +kernel
theorem dX11_readPart_37 : decode cX11_readPart 37 = .ok (.aload_n 0, 1) := by decide +kernel
theorem dX11_readPart_38 : decode cX11_readPart 38 = .ok (.invokevirtual 172, 3) := by decide +kernel
theorem dX11_readPart_41 : decode cX11_readPart 41 = .ok (.ifCond .ne 4, 3) := by decide +kernel
theorem dX11_readPart_44 : decode cX11_readPart 44 = .ok (.return_, 1) := by decide +kernel
theorem dX11_readPart_45 : decode cX11_readPart 45 = .ok (.aload_n 0, 1) := by decide +kernel
theorem dX11_readPart_46 : decode cX11_readPart 46 = .ok (.dup, 1) := by decide +kernel
theorem dX11_readPart_47 : decode cX11_readPart 47 = .ok (.getfield 176, 3) := by decide +kernel
theorem dX11_readPart_50 : decode cX11_readPart 50 = .ok (.iconst 1, 1) := by decide +kernel
theorem dX11_readPart_51 : decode cX11_readPart 51 = .ok (.iadd, 1) := by decide +kernel
theorem dX11_readPart_52 : decode cX11_readPart 52 = .ok (.putfield 176, 3) := by decide +kernel
theorem dX11_readPart_55 : decode cX11_readPart 55 = .ok (.aload_n 0, 1) := by decide +kernel
theorem dX11_readPart_56 : decode cX11_readPart 56 = .ok (.iload_n 1, 1) := by decide +kernel
theorem dX11_readPart_57 : decode cX11_readPart 57 = .ok (.iconst 1, 1) := by decide +kernel
theorem dX11_readPart_58 : decode cX11_readPart 58 = .ok (.iadd, 1) := by decide +kernel
theorem dX11_readPart_59 : decode cX11_readPart 59 = .ok (.invokevirtual 188, 3) := by decide +kernel
theorem dX11_readPart_62 : decode cX11_readPart 62 = .ok (.aload_n 0, 1) := by decide +kernel
theorem dX11_readPart_63 : decode cX11_readPart 63 = .ok (.bipush 93, 2) := by decide +kernel
theorem dX11_readPart_65 : decode cX11_readPart 65 = .ok (.invokestatic 203, 3) := by decide +kernel
theorem dX11_readPart_68 : decode cX11_readPart 68 = .ok (.invokevirtual 191, 3) := by decide +kernel
theorem dX11_readPart_71 : decode cX11_readPart 71 = .ok (.goto 47, 3) := by decide +kernel
theorem dX11_readPart_74 : decode cX11_readPart 74 = .ok (.iload_n 2, 1) := by decide +kernel
theorem dX11_readPart_75 : decode cX11_readPart 75 = .ok (.bipush 50, 2) := by decide +kernel
theorem dX11_readPart_77 : decode cX11_readPart 77 = .ok (.if_icmp .ne 18, 3) := by decide +kernel
theorem dX11_readPart_80 : decode cX11_readPart 80 = .ok (.aload_n 0, 1) := by decide +kernel
theorem dX11_readPart_81 : decode cX11_readPart 81 = .ok (.getfield 43, 3) := by decide +kernel
theorem dX11_readPart_84 : decode cX11_readPart 84 = .ok (.aload_n 0, 1) := by decide +kernel
theorem dX11_readPart_85 : decode cX11_readPart 85 = .ok (.getfield 176, 3) := by decide +kernel
theorem dX11_readPart_88 : decode cX11_readPart 88 = .ok (.iaload, 1) := by decide +kernel
theorem dX11_readPart_89 : decode cX11_readPart 89 = .ok (.sipush 1000, 3) := by decide +kernel
theorem dX11_readPart_92 : decode cX11_readPart 92 = .ok (.if_icmp .le 15, 3) := by decide +kernel
theorem dX11_readPart_95 : decode cX11_readPart 95 = .ok (.iload_n 2, 1) := by decide +kernel
theorem dX11_readPart_96 : decode cX11_readPart 96 = .ok (.bipush 7, 2) := by decide +kernel
theorem dX11_readPart_98 : decode cX11_readPart 98 = .ok (.if_icmp .lt 16, 3) := by decide +kernel
theorem dX11_readPart_101 : decode cX11_readPart 101 = .ok (.iload_n 2, 1) := by decide +kernel
theorem dX11_readPart_102 : decode cX11_readPart 102 = .ok (.bipush 14, 2) := by decide +kernel
theorem dX11_readPart_104 : decode cX11_readPart 104 = .ok (.if_icmp .gt 10, 3) := by decide +kernel
theorem dX11_readPart_107 : decode cX11_readPart 107 = .ok (.aload_n 0, 1) := by decide +kernel
theorem dX11_readPart_108 : decode cX11_readPart 108 = .ok (.invokevirtual 213, 3) := by decide +kernel
theorem dX11_readPart_111 : decode cX11_readPart 111 = .ok (.goto 7, 3) := by decide +kernel
theorem dX11_readPart_114 : decode cX11_readPart 114 = .ok (.aload_n 0, 1) := by decide +kernel
theorem dX11_readPart_115 : decode cX11_readPart 115 = .ok (.invokevirtual 182, 3) := by decide +kernel
theorem dX11_readPart_118 : decode cX11_readPart 118 = .ok (.return_, 1) := by decide +kernel
theorem dX11_reads_0 : decode cX11_reads 0 = .ok (.aload_n 0, 1) := by decide +kernel
theorem dX11_reads_1 : decode cX11_reads 1 = .ok (.aload_n 0, 1) := by decide +kernel
theorem dX11_reads_2 : decode cX11_reads 2 = .ok (.getfield 150, 3) := by decide +kernel
theorem dX11_reads_5 : decode cX11_reads 5 = .ok (.invokevirtual 216, 3) := by decide +kernel
theorem dX11_reads_8 : decode cX11_reads 8 = .ok (.aload_n 0, 1) := by decide +kernel
theorem dX11_reads_9 : decode cX11_reads 9 = .ok (.iconst 0, 1) := by decide +kernel
theorem dX11_reads_10 : decode cX11_reads 10 = .ok (.putfield 150, 3) := by decide +kernel
theorem dX11_reads_13 : decode cX11_reads 13 = .ok (.aload_n 0, 1) := by decide +kernel
theorem dX11_reads_14 : decode cX11_reads 14 = .ok (.iconst 0, 1) := by decide +kernel
theorem dX11_reads_15 : decode cX11_reads 15 = .ok (.putfield 176, 3) := by decide +kernel
theorem dX11_reads_18 : decode cX11_reads 18 = .ok (.aload_n 0, 1) := by decide +kernel
theorem dX11_reads_19 : decode cX11_reads 19 = .ok (.iconst 0, 1) := by decide +kernel
theorem dX11_reads_20 : decode cX11_reads 20 = .ok (.putfield 185, 3) := by decide +kernel
theorem dX11_reads_23 : decode cX11_reads 23 = .ok (.aload_n 0, 1) := by decide +kernel
theorem dX11_reads_24 : decode cX11_reads 24 = .ok (.iconst (-1), 1) := by decide +kernel
theorem dX11_reads_25 : decode cX11_reads 25 = .ok (.putfield 169, 3) := by decide +kernel
theorem dX11_reads_28 : decode cX11_reads 28 = .ok (.aload_n 0, 1) := by decide +kernel
theorem dX11_reads_29 : decode cX11_reads 29 = .ok (.invokevirtual 219, 3) := by decide +kernel
theorem dX11_reads_32 : decode cX11_reads 32 = .ok (.iconst 1, 1) := by decide +kernel
theorem dX11_reads_33 : decode cX11_reads 33 = .ok (.istore_n 1, 1) := by decide +kernel
theorem dX11_reads_34 : decode cX11_reads 34 = .ok (.aload_n 0, 1) := by decide +kernel
theorem dX11_reads_35 : decode cX11_reads 35 = .ok (.bipush 59, 2) := by decide +kernel
theorem dX11_reads_37 : decode cX11_reads 37 = .ok (.invokestatic 203, 3) := by decide +kernel
theorem dX11_reads_40 : decode cX11_reads 40 = .ok (.invokevirtual 179, 3) := by decide +kernel
theorem dX11_reads_43 : decode cX11_reads 43 = .ok (.ifCond .eq 30, 3) := by decide +kernel
theorem dX11_reads_46 : decode cX11_reads 46 = .ok (.iload_n 1, 1) := by decide +kernel
theorem dX11_reads_47 : decode cX11_reads 47 = .ok (.bipush 12, 2) := by decide +kernel
theorem dX11_reads_49 : decode cX11_reads 49 = .ok (.if_icmp .ne 7, 3) := by decide +kernel
theorem dX11_reads_52 : decode cX11_reads 52 = .ok (.aload_n 0, 1) := by decide +kernel
theorem dX11_reads_53 : decode cX11_reads 53 = .ok (.invokevirtual 182, 3) := by decide +kernel
theorem dX11_reads_56 : decode cX11_reads 56 = .ok (.aload_n 0, 1) := by decide +kernel
theorem dX11_reads_57 : decode cX11_reads 57 = .ok (.invokevirtual 172, 3) := by decide +kernel
theorem dX11_reads_60 : decode cX11_reads 60 = .ok (.ifCond .eq 7, 3) := by decide +kernel
theorem dX11_reads_63 : decode cX11_reads 63 = .ok (.aload_n 0, 1) := by decide +kernel
theorem dX11_reads_64 : decode cX11_reads 64 = .ok (.invokevirtual 219, 3) := by decide +kernel
theorem dX11_reads_67 : decode cX11_reads 67 = .ok (.iinc 1 1, 3) := by decide +kernel
theorem dX11_reads_70 : decode cX11_reads 70 = .ok (.goto (-36), 3) := by decide +kernel
theorem dX11_reads_73 : decode cX11_reads 73 = .ok (.aload_n 0, 1) := by decide +kernel
theorem dX11_reads_74 : decode cX11_reads 74 = .ok (.invokevirtual 172, 3) := by decide +kernel
theorem dX11_reads_77 : decode cX11_reads 77 = .ok (.ifCond .eq 18, 3) := by decide +kernel
theorem dX11_reads_80 : decode cX11_reads 80 = .ok (.aload_n 0, 1) := by decide +kernel
theorem dX11_reads_81 : decode cX11_reads 81 = .ok (.getfield 176, 3) := by decide +kernel
theorem dX11_reads_84 : decode cX11_reads 84 = .ok (.aload_n 0, 1) := by decide +kernel
theorem dX11_reads_85 : decode cX11_reads 85 = .ok (.getfield 156, 3) := by decide +kernel
theorem dX11_reads_88 : decode cX11_reads 88 = .ok (.if_icmp .ge 7, 3) := by decide +kernel
theorem dX11_reads_91 : decode cX11_reads 91 = .ok (.aload_n 0, 1) := by decide +kernel
theorem dX11_reads_92 : decode cX11_reads 92 = .ok (.invokevirtual 182, 3) := by decide +kernel
theorem dX11_reads_95 : decode cX11_reads 95 = .ok (.aload_n 0, 1) := by decide +kernel
theorem dX11_reads_96 : decode cX11_reads 96 = .ok (.aload_n 0, 1) := by decide +kernel
theorem dX11_reads_97 : decode cX11_reads 97 = .ok (.getfield 169, 3) := by decide +kernel
theorem dX11_reads_100 : decode cX11_reads 100 = .ok (.putfield 37, 3) := by decide +kernel
theorem dX11_reads_103 : decode cX11_reads 103 = .ok (.aload_n 0, 1) := by decide +kernel
theorem dX11_reads_104 : decode cX11_reads 104 = .ok (.invokevirtual 172, 3) := by decide +kernel
theorem dX11_reads_107 : decode cX11_reads 107 = .ok (.ireturn, 1) := by decide +kernel
theorem dX11_law_0 : decode cX11_law 0 = .ok (.aload_n 0, 1) := by decide +kernel
theorem dX11_law_1 : decode cX11_law 1 = .ok (.getfield 17, 3) := by decide +kernel
theorem dX11_law_4 : decode cX11_law 4 = .ok (.bipush 80, 2) := by decide +kernel
theorem dX11_law_6 : decode cX11_law 6 = .ok (.iaload, 1) := by decide +kernel
theorem dX11_law_7 : decode cX11_law 7 = .ok (.bipush 6, 2) := by decide +kernel
theorem dX11_law_9 : decode cX11_law 9 = .ok (.if_icmp .ne 15, 3) := by decide +kernel
theorem dX11_law_12 : decode cX11_law 12 = .ok (.aload_n 0, 1) := by decide +kernel
theorem dX11_law_13 : decode cX11_law 13 = .ok (.iconst 0, 1) := by decide +kernel
theorem dX11_law_14 : decode cX11_law 14 = .ok (.putfield 150, 3) := by decide +kernel
theorem dX11_law_17 : decode cX11_law 17 = .ok (.aload_n 0, 1) := by decide +kernel
theorem dX11_law_18 : decode cX11_law 18 = .ok (.bipush (-5), 2) := by decide +kernel
theorem dX11_law_20 : decode cX11_law 20 = .ok (.invokevirtual 114, 3) := by decide +kernel
theorem dX11_law_23 : decode cX11_law 23 = .ok (.ireturn, 1) := by decide +kernel
theorem dX11_law_24 : decode cX11_law 24 = .ok (.aload_n 0, 1) := by decide +kernel
theorem dX11_law_25 : decode cX11_law 25 = .ok (.invokevirtual 222, 3) := by decide +kernel
theorem dX11_law_28 : decode cX11_law 28 = .ok (.ifCond .ne 10, 3) := by decide +kernel
theorem dX11_law_31 : decode cX11_law 31 = .ok (.aload_n 0, 1) := by decide +kernel
theorem dX11_law_32 : decode cX11_law 32 = .ok (.bipush (-6), 2) := by decide +kernel
theorem dX11_law_34 : decode cX11_law 34 = .ok (.invokevirtual 114, 3) := by decide +kernel
theorem dX11_law_37 : decode cX11_law 37 = .ok (.ireturn, 1) := by decide +kernel
theorem dX11_law_38 : decode cX11_law 38 = .ok (.aload_n 0, 1) := by decide +kernel
theorem dX11_law_39 : decode cX11_law 39 = .ok (.getfield 17, 3) := by decide +kernel
theorem dX11_law_42 : decode cX11_law 42 = .ok (.bipush 80, 2) := by decide +kernel
theorem dX11_law_44 : decode cX11_law 44 = .ok (.iaload, 1) := by decide +kernel
theorem dX11_law_45 : decode cX11_law 45 = .ok (.istore_n 1, 1) := by decide +kernel
theorem dX11_law_46 : decode cX11_law 46 = .ok (.aload_n 0, 1) := by decide +kernel
theorem dX11_law_47 : decode cX11_law 47 = .ok (.getfield 17, 3) := by decide +kernel
theorem dX11_law_50 : decode cX11_law 50 = .ok (.bipush 82, 2) := by decide +kernel
theorem dX11_law_52 : decode cX11_law 52 = .ok (.iload_n 1, 1) := by decide +kernel
theorem dX11_law_53 : decode cX11_law 53 = .ok (.iadd, 1) := by decide +kernel
theorem dX11_law_54 : decode cX11_law 54 = .ok (.aload_n 0, 1) := by decide +kernel
theorem dX11_law_55 : decode cX11_law 55 = .ok (.getfield 156, 3) := by decide +kernel
theorem dX11_law_58 : decode cX11_law 58 = .ok (.iastore, 1) := by decide +kernel
theorem dX11_law_59 : decode cX11_law 59 = .ok (.iconst 0, 1) := by decide +kernel
theorem dX11_law_60 : decode cX11_law 60 = .ok (.istore_n 2, 1) := by decide +kernel
theorem dX11_law_61 : decode cX11_law 61 = .ok (.iload_n 2, 1) := by decide +kernel
theorem dX11_law_62 : decode cX11_law 62 = .ok (.aload_n 0, 1) := by decide +kernel
theorem dX11_law_63 : decode cX11_law 63 = .ok (.getfield 156, 3) := by decide +kernel
theorem dX11_law_66 : decode cX11_law 66 = .ok (.if_icmp .ge 52, 3) := by decide +kernel
theorem dX11_law_69 : decode cX11_law 69 = .ok (.aload_n 0, 1) := by decide +kernel
theorem dX11_law_70 : decode cX11_law 70 = .ok (.getfield 17, 3) := by decide +kernel
theorem dX11_law_73 : decode cX11_law 73 = .ok (.bipush 88, 2) := by decide +kernel
theorem dX11_law_75 : decode cX11_law 75 = .ok (.sipush 400, 3) := by decide +kernel
theorem dX11_law_78 : decode cX11_law 78 = .ok (.iload_n 1, 1) := by decide +kernel
theorem dX11_law_79 : decode cX11_law 79 = .ok (.imul, 1) := by decide +kernel
theorem dX11_law_80 : decode cX11_law 80 = .ok (.iadd, 1) := by decide +kernel
theorem dX11_law_81 : decode cX11_law 81 = .ok (.iload_n 2, 1) := by decide +kernel
theorem dX11_law_82 : decode cX11_law 82 = .ok (.iadd, 1) := by decide +kernel
theorem dX11_law_83 : decode cX11_law 83 = .ok (.aload_n 0, 1) := by decide +kernel
theorem dX11_law_84 : decode cX11_law 84 = .ok (.getfield 40, 3) := by decide +kernel
theorem dX11_law_87 : decode cX11_law 87 = .ok (.iload_n 2, 1) := by decide +kernel
theorem dX11_law_88 : decode cX11_law 88 = .ok (.iaload, 1) := by decide +kernel
theorem dX11_law_89 : decode cX11_law 89 = .ok (.iastore, 1) := by decide +kernel
theorem dX11_law_90 : decode cX11_law 90 = .ok (.aload_n 0, 1) := by decide +kernel
theorem dX11_law_91 : decode cX11_law 91 = .ok (.getfield 17, 3) := by decide +kernel
theorem dX11_law_94 : decode cX11_law 94 = .ok (.sipush 2488, 3) := by decide +kernel
theorem dX11_law_97 : decode cX11_law 97 = .ok (.sipush 400, 3) := by decide +kernel
theorem dX11_law_100 : decode cX11_law 100 = .ok (.iload_n 1, 1) := by decide +kernel
theorem dX11_law_101 : decode cX11_law 101 = .ok (.imul, 1) := by decide +kernel
theorem dX11_law_102 : decode cX11_law 102 = .ok (.iadd, 1) := by decide +kernel
theorem dX11_law_103 : decode cX11_law 103 = .ok (.iload_n 2, 1) := by decide +kernel
theorem dX11_law_104 : decode cX11_law 104 = .ok (.iadd, 1) := by decide +kernel
theorem dX11_law_105 : decode cX11_law 105 = .ok (.aload_n 0, 1) := by decide +kernel
theorem dX11_law_106 : decode cX11_law 106 = .ok (.getfield 43, 3) := by decide +kernel
theorem dX11_law_109 : decode cX11_law 109 = .ok (.iload_n 2, 1) := by decide +kernel
theorem dX11_law_110 : decode cX11_law 110 = .ok (.iaload, 1) := by decide +kernel
theorem dX11_law_111 : decode cX11_law 111 = .ok (.iastore, 1) := by decide +kernel
theorem dX11_law_112 : decode cX11_law 112 = .ok (.iinc 2 1, 3) := by decide +kernel
theorem dX11_law_115 : decode cX11_law 115 = .ok (.goto (-54), 3) := by decide +kernel
theorem dX11_law_118 : decode cX11_law 118 = .ok (.aload_n 0, 1) := by decide +kernel
theorem dX11_law_119 : decode cX11_law 119 = .ok (.getfield 17, 3) := by decide +kernel
theorem dX11_law_122 : decode cX11_law 122 = .ok (.bipush 80, 2) := by decide +kernel
theorem dX11_law_124 : decode cX11_law 124 = .ok (.dup2, 1) := by decide +kernel
theorem dX11_law_125 : decode cX11_law 125 = .ok (.iaload, 1) := by decide +kernel
theorem dX11_law_126 : decode cX11_law 126 = .ok (.iconst 1, 1) := by decide +kernel
theorem dX11_law_127 : decode cX11_law 127 = .ok (.iadd, 1) := by decide +kernel
theorem dX11_law_128 : decode cX11_law 128 = .ok (.iastore, 1) := by decide +kernel
theorem dX11_law_129 : decode cX11_law 129 = .ok (.aload_n 0, 1) := by decide +kernel
theorem dX11_law_130 : decode cX11_law 130 = .ok (.iload_n 1, 1) := by decide +kernel
theorem dX11_law_131 : decode cX11_law 131 = .ok (.invokevirtual 118, 3) := by decide +kernel
theorem dX11_law_134 : decode cX11_law 134 = .ok (.ireturn, 1) := by decide +kernel
theorem dX11_fault_0 : decode cX11_fault 0 = .ok (.aload_n 0, 1) := by decide +kernel
theorem dX11_fault_1 : decode cX11_fault 1 = .ok (.getfield 37, 3) := by decide +kernel
theorem dX11_fault_4 : decode cX11_fault 4 = .ok (.ireturn, 1) := by decide +kernel
theorem dX11_force_0 : decode cX11_force 0 = .ok (.iload_n 1, 1) := by decide +kernel
theorem dX11_force_1 : decode cX11_force 1 = .ok (.iconst (-1), 1) := by decide +kernel
theorem dX11_force_2 : decode cX11_force 2 = .ok (.aload_n 0, 1) := by decide +kernel
theorem dX11_force_3 : decode cX11_force 3 = .ok (.getfield 17, 3) := by decide +kernel
theorem dX11_force_6 : decode cX11_force 6 = .ok (.bipush 80, 2) := by decide +kernel
theorem dX11_force_8 : decode cX11_force 8 = .ok (.iaload, 1) := by decide +kernel
theorem dX11_force_9 : decode cX11_force 9 = .ok (.iconst 1, 1) := by decide +kernel
theorem dX11_force_10 : decode cX11_force 10 = .ok (.isub, 1) := by decide +kernel
theorem dX11_force_11 : decode cX11_force 11 = .ok (.invokestatic 110, 3) := by decide +kernel
theorem dX11_force_14 : decode cX11_force 14 = .ok (.ifCond .ne 10, 3) := by decide +kernel
theorem dX11_force_17 : decode cX11_force 17 = .ok (.aload_n 0, 1) := by decide +kernel
theorem dX11_force_18 : decode cX11_force 18 = .ok (.bipush (-2), 2) := by decide +kernel
theorem dX11_force_20 : decode cX11_force 20 = .ok (.invokevirtual 114, 3) := by decide +kernel
theorem dX11_force_23 : decode cX11_force 23 = .ok (.ireturn, 1) := by decide +kernel
theorem dX11_force_24 : decode cX11_force 24 = .ok (.aload_n 0, 1) := by decide +kernel
theorem dX11_force_25 : decode cX11_force 25 = .ok (.getfield 17, 3) := by decide +kernel
theorem dX11_force_28 : decode cX11_force 28 = .ok (.bipush 81, 2) := by decide +kernel
theorem dX11_force_30 : decode cX11_force 30 = .ok (.iaload, 1) := by decide +kernel
theorem dX11_force_31 : decode cX11_force 31 = .ok (.istore_n 2, 1) := by decide +kernel
theorem dX11_force_32 : decode cX11_force 32 = .ok (.aload_n 0, 1) := by decide +kernel
theorem dX11_force_33 : decode cX11_force 33 = .ok (.getfield 17, 3) := by decide +kernel
theorem dX11_force_36 : decode cX11_force 36 = .ok (.bipush 81, 2) := by decide +kernel
theorem dX11_force_38 : decode cX11_force 38 = .ok (.iload_n 1, 1) := by decide +kernel
theorem dX11_force_39 : decode cX11_force 39 = .ok (.iastore, 1) := by decide +kernel
theorem dX11_force_40 : decode cX11_force 40 = .ok (.aload_n 0, 1) := by decide +kernel
theorem dX11_force_41 : decode cX11_force 41 = .ok (.iload_n 2, 1) := by decide +kernel
theorem dX11_force_42 : decode cX11_force 42 = .ok (.invokevirtual 118, 3) := by decide +kernel
theorem dX11_force_45 : decode cX11_force 45 = .ok (.ireturn, 1) := by decide +kernel
theorem dX11_codeAt_0 : decode cX11_codeAt 0 = .ok (.iload_n 1, 1) := by decide +kernel
theorem dX11_codeAt_1 : decode cX11_codeAt 1 = .ok (.aload_n 0, 1) := by decide +kernel
theorem dX11_codeAt_2 : decode cX11_codeAt 2 = .ok (.getfield 225, 3) := by decide +kernel
theorem dX11_codeAt_5 : decode cX11_codeAt 5 = .ok (.if_icmp .ge 15, 3) := by decide +kernel
theorem dX11_codeAt_8 : decode cX11_codeAt 8 = .ok (.aload_n 0, 1) := by decide +kernel
theorem dX11_codeAt_9 : decode cX11_codeAt 9 = .ok (.getfield 17, 3) := by decide +kernel
theorem dX11_codeAt_12 : decode cX11_codeAt 12 = .ok (.bipush 88, 2) := by decide +kernel
theorem dX11_codeAt_14 : decode cX11_codeAt 14 = .ok (.iload_n 1, 1) := by decide +kernel
theorem dX11_codeAt_15 : decode cX11_codeAt 15 = .ok (.iadd, 1) := by decide +kernel
theorem dX11_codeAt_16 : decode cX11_codeAt 16 = .ok (.iaload, 1) := by decide +kernel
theorem dX11_codeAt_17 : decode cX11_codeAt 17 = .ok (.goto 4, 3) := by decide +kernel
theorem dX11_codeAt_20 : decode cX11_codeAt 20 = .ok (.iconst 0, 1) := by decide +kernel
theorem dX11_codeAt_21 : decode cX11_codeAt 21 = .ok (.ireturn, 1) := by decide +kernel
theorem dX11_passes0_0 : decode cX11_passes0 0 = .ok (.aload_n 0, 1) := by decide +kernel
theorem dX11_passes0_1 : decode cX11_passes0 1 = .ok (.aload_n 0, 1) := by decide +kernel
theorem dX11_passes0_2 : decode cX11_passes0 2 = .ok (.getfield 228, 3) := by decide +kernel
theorem dX11_passes0_5 : decode cX11_passes0 5 = .ok (.invokevirtual 231, 3) := by decide +kernel
theorem dX11_passes0_8 : decode cX11_passes0 8 = .ok (.iload_n 1, 1) := by decide +kernel
theorem dX11_passes0_9 : decode cX11_passes0 9 = .ok (.if_icmp .ne 7, 3) := by decide +kernel
theorem dX11_passes0_12 : decode cX11_passes0 12 = .ok (.iconst 1, 1) := by decide +kernel
theorem dX11_passes0_13 : decode cX11_passes0 13 = .ok (.goto 4, 3) := by decide +kernel
theorem dX11_passes0_16 : decode cX11_passes0 16 = .ok (.iconst 0, 1) := by decide +kernel
theorem dX11_passes0_17 : decode cX11_passes0 17 = .ok (.istore_n 2, 1) := by decide +kernel
theorem dX11_passes0_18 : decode cX11_passes0 18 = .ok (.iload_n 2, 1) := by decide +kernel
theorem dX11_passes0_19 : decode cX11_passes0 19 = .ok (.ifCond .eq 13, 3) := by decide +kernel
theorem dX11_passes0_22 : decode cX11_passes0 22 = .ok (.aload_n 0, 1) := by decide +kernel
theorem dX11_passes0_23 : decode cX11_passes0 23 = .ok (.dup, 1) := by decide +kernel
theorem dX11_passes0_24 : decode cX11_passes0 24 = .ok (.getfield 228, 3) := by decide +kernel
theorem dX11_passes0_27 : decode cX11_passes0 27 = .ok (.iconst 1, 1) := by decide +kernel
theorem dX11_passes0_28 : decode cX11_passes0 28 = .ok (.iadd, 1) := by decide +kernel
theorem dX11_passes0_29 : decode cX11_passes0 29 = .ok (.putfield 228, 3) := by decide +kernel
theorem dX11_passes0_32 : decode cX11_passes0 32 = .ok (.iload_n 2, 1) := by decide +kernel
theorem dX11_passes0_33 : decode cX11_passes0 33 = .ok (.ireturn, 1) := by decide +kernel
theorem dX11_bounded_0 : decode cX11_bounded 0 = .ok (.iload_n 3, 1) := by decide +kernel
theorem dX11_bounded_1 : decode cX11_bounded 1 = .ok (.ifCond .eq 24, 3) := by decide +kernel
theorem dX11_bounded_4 : decode cX11_bounded 4 = .ok (.lload_n 1, 1) := by decide +kernel
theorem dX11_bounded_5 : decode cX11_bounded 5 = .ok (.ldc2_w 234, 3) := by decide +kernel
theorem dX11_bounded_8 : decode cX11_bounded 8 = .ok (.lcmp, 1) := by decide +kernel
theorem dX11_bounded_9 : decode cX11_bounded 9 = .ok (.ifCond .gt 11, 3) := by decide +kernel
theorem dX11_bounded_12 : decode cX11_bounded 12 = .ok (.lload_n 1, 1) := by decide +kernel
theorem dX11_bounded_13 : decode cX11_bounded 13 = .ok (.ldc2_w 236, 3) := by decide +kernel
theorem dX11_bounded_16 : decode cX11_bounded 16 = .ok (.lcmp, 1) := by decide +kernel
theorem dX11_bounded_17 : decode cX11_bounded 17 = .ok (.ifCond .ge 8, 3) := by decide +kernel
theorem dX11_bounded_20 : decode cX11_bounded 20 = .ok (.aload_n 0, 1) := by decide +kernel
theorem dX11_bounded_21 : decode cX11_bounded 21 = .ok (.iconst 1, 1) := by decide +kernel
theorem dX11_bounded_22 : decode cX11_bounded 22 = .ok (.putfield 238, 3) := by decide +kernel
theorem dX11_bounded_25 : decode cX11_bounded 25 = .ok (.aload_n 0, 1) := by decide +kernel
theorem dX11_bounded_26 : decode cX11_bounded 26 = .ok (.getfield 238, 3) := by decide +kernel
theorem dX11_bounded_29 : decode cX11_bounded 29 = .ok (.ifCond .eq 7, 3) := by decide +kernel
theorem dX11_bounded_32 : decode cX11_bounded 32 = .ok (.lconst 0, 1) := by decide +kernel
theorem dX11_bounded_33 : decode cX11_bounded 33 = .ok (.goto 4, 3) := by decide +kernel
theorem dX11_bounded_36 : decode cX11_bounded 36 = .ok (.lload_n 1, 1) := by decide +kernel
theorem dX11_bounded_37 : decode cX11_bounded 37 = .ok (.lreturn, 1) := by decide +kernel
theorem dX11_sumOf_0 : decode cX11_sumOf 0 = .ok (.aload_n 0, 1) := by decide +kernel
theorem dX11_sumOf_1 : decode cX11_sumOf 1 = .ok (.iload_n 1, 1) := by decide +kernel
theorem dX11_sumOf_2 : decode cX11_sumOf 2 = .ok (.invokevirtual 242, 3) := by decide +kernel
theorem dX11_sumOf_5 : decode cX11_sumOf 5 = .ok (.lstore_n 2, 1) := by decide +kernel
theorem dX11_sumOf_6 : decode cX11_sumOf 6 = .ok (.aload_n 0, 1) := by decide +kernel
theorem dX11_sumOf_7 : decode cX11_sumOf 7 = .ok (.aload_n 0, 1) := by decide +kernel
theorem dX11_sumOf_8 : decode cX11_sumOf 8 = .ok (.getfield 228, 3) := by decide +kernel
theorem dX11_sumOf_11 : decode cX11_sumOf 11 = .ok (.invokevirtual 231, 3) := by decide +kernel
theorem dX11_sumOf_14 : decode cX11_sumOf 14 = .ok (.bipush 43, 2) := by decide +kernel
theorem dX11_sumOf_16 : decode cX11_sumOf 16 = .ok (.invokestatic 203, 3) := by decide +kernel
theorem dX11_sumOf_19 : decode cX11_sumOf 19 = .ok (.if_icmp .eq 19, 3) := by decide +kernel
theorem dX11_sumOf_22 : decode cX11_sumOf 22 = .ok (.aload_n 0, 1) := by decide +kernel
theorem dX11_sumOf_23 : decode cX11_sumOf 23 = .ok (.aload_n 0, 1) := by decide +kernel
theorem dX11_sumOf_24 : decode cX11_sumOf 24 = .ok (.getfield 228, 3) := by decide +kernel
theorem dX11_sumOf_27 : decode cX11_sumOf 27 = .ok (.invokevirtual 231, 3) := by decide +kernel
theorem dX11_sumOf_30 : decode cX11_sumOf 30 = .ok (.bipush 45, 2) := by decide +kernel
theorem dX11_sumOf_32 : decode cX11_sumOf 32 = .ok (.invokestatic 203, 3) := by decide +kernel
theorem dX11_sumOf_35 : decode cX11_sumOf 35 = .ok (.if_icmp .ne 68, 3) := by decide +kernel
theorem dX11_sumOf_38 : decode cX11_sumOf 38 = .ok (.aload_n 0, 1) := by decide +kernel
theorem dX11_sumOf_39 : decode cX11_sumOf 39 = .ok (.aload_n 0, 1) := by decide +kernel
theorem dX11_sumOf_40 : decode cX11_sumOf 40 = .ok (.getfield 228, 3) := by decide +kernel
theorem dX11_sumOf_43 : decode cX11_sumOf 43 = .ok (.invokevirtual 231, 3) := by decide +kernel
theorem dX11_sumOf_46 : decode cX11_sumOf 46 = .ok (.bipush 43, 2) := by decide +kernel
theorem dX11_sumOf_48 : decode cX11_sumOf 48 = .ok (.invokestatic 203, 3) := by decide +kernel
theorem dX11_sumOf_51 : decode cX11_sumOf 51 = .ok (.if_icmp .ne 7, 3) := by decide +kernel
theorem dX11_sumOf_54 : decode cX11_sumOf 54 = .ok (.iconst 1, 1) := by decide +kernel
theorem dX11_sumOf_55 : decode cX11_sumOf 55 = .ok (.goto 4, 3) := by decide +kernel
theorem dX11_sumOf_58 : decode cX11_sumOf 58 = .ok (.iconst 0, 1) := by decide +kernel
theorem dX11_sumOf_59 : decode cX11_sumOf 59 = .ok (.istore 4, 2) := by decide +kernel
theorem dX11_sumOf_61 : decode cX11_sumOf 61 = .ok (.aload_n 0, 1) := by decide +kernel
theorem dX11_sumOf_62 : decode cX11_sumOf 62 = .ok (.dup, 1) := by decide +kernel
theorem dX11_sumOf_63 : decode cX11_sumOf 63 = .ok (.getfield 228, 3) := by decide +kernel
theorem dX11_sumOf_66 : decode cX11_sumOf 66 = .ok (.iconst 1, 1) := by decide +kernel
theorem dX11_sumOf_67 : decode cX11_sumOf 67 = .ok (.iadd, 1) := by decide +kernel
theorem dX11_sumOf_68 : decode cX11_sumOf 68 = .ok (.putfield 228, 3) := by decide +kernel
theorem dX11_sumOf_71 : decode cX11_sumOf 71 = .ok (.aload_n 0, 1) := by decide +kernel
theorem dX11_sumOf_72 : decode cX11_sumOf 72 = .ok (.iload_n 1, 1) := by decide +kernel
theorem dX11_sumOf_73 : decode cX11_sumOf 73 = .ok (.invokevirtual 242, 3) := by decide +kernel
theorem dX11_sumOf_76 : decode cX11_sumOf 76 = .ok (.lstore 5, 2) := by decide +kernel
theorem dX11_sumOf_78 : decode cX11_sumOf 78 = .ok (.aload_n 0, 1) := by decide +kernel
theorem dX11_sumOf_79 : decode cX11_sumOf 79 = .ok (.iload 4, 2) := by decide +kernel
theorem dX11_sumOf_81 : decode cX11_sumOf 81 = .ok (.ifCond .eq 10, 3) := by decide +kernel
theorem dX11_sumOf_84 : decode cX11_sumOf 84 = .ok (.lload_n 2, 1) := by decide +kernel
theorem dX11_sumOf_85 : decode cX11_sumOf 85 = .ok (.lload 5, 2) := by decide +kernel
theorem dX11_sumOf_87 : decode cX11_sumOf 87 = .ok (.ladd, 1) := by decide +kernel
theorem dX11_sumOf_88 : decode cX11_sumOf 88 = .ok (.goto 7, 3) := by decide +kernel
theorem dX11_sumOf_91 : decode cX11_sumOf 91 = .ok (.lload_n 2, 1) := by decide +kernel
theorem dX11_sumOf_92 : decode cX11_sumOf 92 = .ok (.lload 5, 2) := by decide +kernel
theorem dX11_sumOf_94 : decode cX11_sumOf 94 = .ok (.lsub, 1) := by decide +kernel
theorem dX11_sumOf_95 : decode cX11_sumOf 95 = .ok (.iload_n 1, 1) := by decide +kernel
theorem dX11_sumOf_96 : decode cX11_sumOf 96 = .ok (.invokevirtual 246, 3) := by decide +kernel
theorem dX11_sumOf_99 : decode cX11_sumOf 99 = .ok (.lstore_n 2, 1) := by decide +kernel
theorem dX11_sumOf_100 : decode cX11_sumOf 100 = .ok (.goto (-94), 3) := by decide +kernel
theorem dX11_sumOf_103 : decode cX11_sumOf 103 = .ok (.lload_n 2, 1) := by decide +kernel
theorem dX11_sumOf_104 : decode cX11_sumOf 104 = .ok (.lreturn, 1) := by decide +kernel
theorem dX11_termOf_0 : decode cX11_termOf 0 = .ok (.aload_n 0, 1) := by decide +kernel
theorem dX11_termOf_1 : decode cX11_termOf 1 = .ok (.iload_n 1, 1) := by decide +kernel
theorem dX11_termOf_2 : decode cX11_termOf 2 = .ok (.invokevirtual 250, 3) := by decide +kernel
theorem dX11_termOf_5 : decode cX11_termOf 5 = .ok (.lstore_n 2, 1) := by decide +kernel
theorem dX11_termOf_6 : decode cX11_termOf 6 = .ok (.aload_n 0, 1) := by decide +kernel
theorem dX11_termOf_7 : decode cX11_termOf 7 = .ok (.aload_n 0, 1) := by decide +kernel
theorem dX11_termOf_8 : decode cX11_termOf 8 = .ok (.getfield 228, 3) := by decide +kernel
theorem dX11_termOf_11 : decode cX11_termOf 11 = .ok (.invokevirtual 231, 3) := by decide +kernel
theorem dX11_termOf_14 : decode cX11_termOf 14 = .ok (.bipush 42, 2) := by decide +kernel
theorem dX11_termOf_16 : decode cX11_termOf 16 = .ok (.invokestatic 203, 3) := by decide +kernel
theorem dX11_termOf_19 : decode cX11_termOf 19 = .ok (.if_icmp .eq 19, 3) := by decide +kernel
theorem dX11_termOf_22 : decode cX11_termOf 22 = .ok (.aload_n 0, 1) := by decide +kernel
theorem dX11_termOf_23 : decode cX11_termOf 23 = .ok (.aload_n 0, 1) := by decide +kernel
theorem dX11_termOf_24 : decode cX11_termOf 24 = .ok (.getfield 228, 3) := by decide +kernel
theorem dX11_termOf_27 : decode cX11_termOf 27 = .ok (.invokevirtual 231, 3) := by decide +kernel
theorem dX11_termOf_30 : decode cX11_termOf 30 = .ok (.bipush 47, 2) := by decide +kernel
theorem dX11_termOf_32 : decode cX11_termOf 32 = .ok (.invokestatic 203, 3) := by decide +kernel
theorem dX11_termOf_35 : decode cX11_termOf 35 = .ok (.if_icmp .ne 103, 3) := by decide +kernel
theorem dX11_termOf_38 : decode cX11_termOf 38 = .ok (.aload_n 0, 1) := by decide +kernel
theorem dX11_termOf_39 : decode cX11_termOf 39 = .ok (.aload_n 0, 1) := by decide +kernel
theorem dX11_termOf_40 : decode cX11_termOf 40 = .ok (.getfield 228, 3) := by decide +kernel
theorem dX11_termOf_43 : decode cX11_termOf 43 = .ok (.invokevirtual 231, 3) := by decide +kernel
theorem dX11_termOf_46 : decode cX11_termOf 46 = .ok (.bipush 42, 2) := by decide +kernel
theorem dX11_termOf_48 : decode cX11_termOf 48 = .ok (.invokestatic 203, 3) := by decide +kernel
theorem dX11_termOf_51 : decode cX11_termOf 51 = .ok (.if_icmp .ne 7, 3) := by decide +kernel
theorem dX11_termOf_54 : decode cX11_termOf 54 = .ok (.iconst 1, 1) := by decide +kernel
theorem dX11_termOf_55 : decode cX11_termOf 55 = .ok (.goto 4, 3) := by decide +kernel
theorem dX11_termOf_58 : decode cX11_termOf 58 = .ok (.iconst 0, 1) := by decide +kernel
theorem dX11_termOf_59 : decode cX11_termOf 59 = .ok (.istore 4, 2) := by decide +kernel
theorem dX11_termOf_61 : decode cX11_termOf 61 = .ok (.aload_n 0, 1) := by decide +kernel
theorem dX11_termOf_62 : decode cX11_termOf 62 = .ok (.dup, 1) := by decide +kernel
theorem dX11_termOf_63 : decode cX11_termOf 63 = .ok (.getfield 228, 3) := by decide +kernel
theorem dX11_termOf_66 : decode cX11_termOf 66 = .ok (.iconst 1, 1) := by decide +kernel
theorem dX11_termOf_67 : decode cX11_termOf 67 = .ok (.iadd, 1) := by decide +kernel
theorem dX11_termOf_68 : decode cX11_termOf 68 = .ok (.putfield 228, 3) := by decide +kernel
theorem dX11_termOf_71 : decode cX11_termOf 71 = .ok (.aload_n 0, 1) := by decide +kernel
theorem dX11_termOf_72 : decode cX11_termOf 72 = .ok (.iload_n 1, 1) := by decide +kernel
theorem dX11_termOf_73 : decode cX11_termOf 73 = .ok (.invokevirtual 250, 3) := by decide +kernel
theorem dX11_termOf_76 : decode cX11_termOf 76 = .ok (.lstore 5, 2) := by decide +kernel
theorem dX11_termOf_78 : decode cX11_termOf 78 = .ok (.iload 4, 2) := by decide +kernel
theorem dX11_termOf_80 : decode cX11_termOf 80 = .ok (.ifCond .ne 33, 3) := by decide +kernel
theorem dX11_termOf_83 : decode cX11_termOf 83 = .ok (.lload 5, 2) := by decide +kernel
theorem dX11_termOf_85 : decode cX11_termOf 85 = .ok (.lconst 0, 1) := by decide +kernel
theorem dX11_termOf_86 : decode cX11_termOf 86 = .ok (.lcmp, 1) := by decide +kernel
theorem dX11_termOf_87 : decode cX11_termOf 87 = .ok (.ifCond .ne 26, 3) := by decide +kernel
theorem dX11_termOf_90 : decode cX11_termOf 90 = .ok (.aload_n 0, 1) := by decide +kernel
theorem dX11_termOf_91 : decode cX11_termOf 91 = .ok (.aload_n 0, 1) := by decide +kernel
theorem dX11_termOf_92 : decode cX11_termOf 92 = .ok (.getfield 238, 3) := by decide +kernel
theorem dX11_termOf_95 : decode cX11_termOf 95 = .ok (.ifCond .ne 7, 3) := by decide +kernel
theorem dX11_termOf_98 : decode cX11_termOf 98 = .ok (.iload_n 1, 1) := by decide +kernel
theorem dX11_termOf_99 : decode cX11_termOf 99 = .ok (.ifCond .eq 7, 3) := by decide +kernel
theorem dX11_termOf_102 : decode cX11_termOf 102 = .ok (.iconst 1, 1) := by decide +kernel
theorem dX11_termOf_103 : decode cX11_termOf 103 = .ok (.goto 4, 3) := by decide +kernel
theorem dX11_termOf_106 : decode cX11_termOf 106 = .ok (.iconst 0, 1) := by decide +kernel
theorem dX11_termOf_107 : decode cX11_termOf 107 = .ok (.putfield 238, 3) := by decide +kernel
theorem dX11_termOf_110 : decode cX11_termOf 110 = .ok (.lconst 1, 1) := by decide +kernel
theorem dX11_termOf_111 : decode cX11_termOf 111 = .ok (.lstore 5, 2) := by decide +kernel
theorem dX11_termOf_113 : decode cX11_termOf 113 = .ok (.aload_n 0, 1) := by decide +kernel
theorem dX11_termOf_114 : decode cX11_termOf 114 = .ok (.iload 4, 2) := by decide +kernel
theorem dX11_termOf_116 : decode cX11_termOf 116 = .ok (.ifCond .eq 10, 3) := by decide +kernel
theorem dX11_termOf_119 : decode cX11_termOf 119 = .ok (.lload_n 2, 1) := by decide +kernel
theorem dX11_termOf_120 : decode cX11_termOf 120 = .ok (.lload 5, 2) := by decide +kernel
