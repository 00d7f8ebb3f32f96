/-! THE LAW: its instructions, its loop -/
theorem dL_law_0 : decode cL_law 0 = .ok (.new 7, 3) := by decide +kernel
theorem dL_law_3 : decode cL_law 3 = .ok (.dup, 1) := by decide +kernel
theorem dL_law_4 : decode cL_law 4 = .ok (.invokespecial 9, 3) := by decide +kernel
theorem dL_law_7 : decode cL_law 7 = .ok (.astore_n 1, 1) := by decide +kernel
theorem dL_law_8 : decode cL_law 8 = .ok (.new 10, 3) := by decide +kernel
theorem dL_law_11 : decode cL_law 11 = .ok (.dup, 1) := by decide +kernel
theorem dL_law_12 : decode cL_law 12 = .ok (.invokespecial 12, 3) := by decide +kernel
theorem dL_law_15 : decode cL_law 15 = .ok (.astore_n 2, 1) := by decide +kernel
theorem dL_law_16 : decode cL_law 16 = .ok (.iconst 0, 1) := by decide +kernel
theorem dL_law_17 : decode cL_law 17 = .ok (.istore_n 3, 1) := by decide +kernel
theorem dL_law_18 : decode cL_law 18 = .ok (.iload_n 3, 1) := by decide +kernel
theorem dL_law_19 : decode cL_law 19 = .ok (.aload_n 0, 1) := by decide +kernel
theorem dL_law_20 : decode cL_law 20 = .ok (.arraylength, 1) := by decide +kernel
theorem dL_law_21 : decode cL_law 21 = .ok (.bipush 6, 2) := by decide +kernel
theorem dL_law_23 : decode cL_law 23 = .ok (.isub, 1) := by decide +kernel
theorem dL_law_24 : decode cL_law 24 = .ok (.if_icmp .gt 1379, 3) := by decide +kernel
theorem dL_law_27 : decode cL_law 27 = .ok (.aload_n 0, 1) := by decide +kernel
theorem dL_law_28 : decode cL_law 28 = .ok (.iload_n 3, 1) := by decide +kernel
theorem dL_law_29 : decode cL_law 29 = .ok (.iaload, 1) := by decide +kernel
theorem dL_law_30 : decode cL_law 30 = .ok (.bipush 63, 2) := by decide +kernel
theorem dL_law_32 : decode cL_law 32 = .ok (.iand, 1) := by decide +kernel
theorem dL_law_33 : decode cL_law 33 = .ok (.tableswitch 1364 0 36 #[163, 196, 229, 262, 285, 318, 351, 384, 447, 470, 523, 566, 589, 612, 635, 668, 701, 734, 777, 820, 853, 876, 919, 972, 995, 1038, 1061, 1104, 1147, 1210, 1233, 1256, 1269, 1282, 1305, 1318, 1341], 163) := by decide +kernel
theorem dL_law_196 : decode cL_law 196 = .ok (.aload_n 1, 1) := by decide +kernel
theorem dL_law_197 : decode cL_law 197 = .ok (.aload_n 0, 1) := by decide +kernel
theorem dL_law_198 : decode cL_law 198 = .ok (.iload_n 3, 1) := by decide +kernel
theorem dL_law_199 : decode cL_law 199 = .ok (.iconst 1, 1) := by decide +kernel
theorem dL_law_200 : decode cL_law 200 = .ok (.iadd, 1) := by decide +kernel
theorem dL_law_201 : decode cL_law 201 = .ok (.iaload, 1) := by decide +kernel
theorem dL_law_202 : decode cL_law 202 = .ok (.aload_n 0, 1) := by decide +kernel
theorem dL_law_203 : decode cL_law 203 = .ok (.iload_n 3, 1) := by decide +kernel
theorem dL_law_204 : decode cL_law 204 = .ok (.iconst 2, 1) := by decide +kernel
theorem dL_law_205 : decode cL_law 205 = .ok (.iadd, 1) := by decide +kernel
theorem dL_law_206 : decode cL_law 206 = .ok (.iaload, 1) := by decide +kernel
theorem dL_law_207 : decode cL_law 207 = .ok (.invokevirtual 13, 3) := by decide +kernel
theorem dL_law_210 : decode cL_law 210 = .ok (.aload_n 2, 1) := by decide +kernel
theorem dL_law_211 : decode cL_law 211 = .ok (.aload_n 0, 1) := by decide +kernel
theorem dL_law_212 : decode cL_law 212 = .ok (.iload_n 3, 1) := by decide +kernel
theorem dL_law_213 : decode cL_law 213 = .ok (.iconst 1, 1) := by decide +kernel
theorem dL_law_214 : decode cL_law 214 = .ok (.iadd, 1) := by decide +kernel
theorem dL_law_215 : decode cL_law 215 = .ok (.iaload, 1) := by decide +kernel
theorem dL_law_216 : decode cL_law 216 = .ok (.aload_n 0, 1) := by decide +kernel
theorem dL_law_217 : decode cL_law 217 = .ok (.iload_n 3, 1) := by decide +kernel
theorem dL_law_218 : decode cL_law 218 = .ok (.iconst 2, 1) := by decide +kernel
theorem dL_law_219 : decode cL_law 219 = .ok (.iadd, 1) := by decide +kernel
theorem dL_law_220 : decode cL_law 220 = .ok (.iaload, 1) := by decide +kernel
theorem dL_law_221 : decode cL_law 221 = .ok (.invokevirtual 17, 3) := by decide +kernel
theorem dL_law_224 : decode cL_law 224 = .ok (.if_icmp .eq 1173, 3) := by decide +kernel
theorem dL_law_227 : decode cL_law 227 = .ok (.iconst 0, 1) := by decide +kernel
theorem dL_law_228 : decode cL_law 228 = .ok (.ireturn, 1) := by decide +kernel
theorem dL_law_229 : decode cL_law 229 = .ok (.aload_n 1, 1) := by decide +kernel
theorem dL_law_230 : decode cL_law 230 = .ok (.aload_n 0, 1) := by decide +kernel
theorem dL_law_231 : decode cL_law 231 = .ok (.iload_n 3, 1) := by decide +kernel
theorem dL_law_232 : decode cL_law 232 = .ok (.iconst 1, 1) := by decide +kernel
theorem dL_law_233 : decode cL_law 233 = .ok (.iadd, 1) := by decide +kernel
theorem dL_law_234 : decode cL_law 234 = .ok (.iaload, 1) := by decide +kernel
theorem dL_law_235 : decode cL_law 235 = .ok (.aload_n 0, 1) := by decide +kernel
theorem dL_law_236 : decode cL_law 236 = .ok (.iload_n 3, 1) := by decide +kernel
theorem dL_law_237 : decode cL_law 237 = .ok (.iconst 2, 1) := by decide +kernel
theorem dL_law_238 : decode cL_law 238 = .ok (.iadd, 1) := by decide +kernel
theorem dL_law_239 : decode cL_law 239 = .ok (.iaload, 1) := by decide +kernel
theorem dL_law_240 : decode cL_law 240 = .ok (.invokevirtual 18, 3) := by decide +kernel
theorem dL_law_243 : decode cL_law 243 = .ok (.aload_n 2, 1) := by decide +kernel
theorem dL_law_244 : decode cL_law 244 = .ok (.aload_n 0, 1) := by decide +kernel
theorem dL_law_245 : decode cL_law 245 = .ok (.iload_n 3, 1) := by decide +kernel
theorem dL_law_246 : decode cL_law 246 = .ok (.iconst 1, 1) := by decide +kernel
theorem dL_law_247 : decode cL_law 247 = .ok (.iadd, 1) := by decide +kernel
theorem dL_law_248 : decode cL_law 248 = .ok (.iaload, 1) := by decide +kernel
theorem dL_law_249 : decode cL_law 249 = .ok (.aload_n 0, 1) := by decide +kernel
theorem dL_law_250 : decode cL_law 250 = .ok (.iload_n 3, 1) := by decide +kernel
theorem dL_law_251 : decode cL_law 251 = .ok (.iconst 2, 1) := by decide +kernel
theorem dL_law_252 : decode cL_law 252 = .ok (.iadd, 1) := by decide +kernel
theorem dL_law_253 : decode cL_law 253 = .ok (.iaload, 1) := by decide +kernel
theorem dL_law_254 : decode cL_law 254 = .ok (.invokevirtual 21, 3) := by decide +kernel
theorem dL_law_257 : decode cL_law 257 = .ok (.if_icmp .eq 1140, 3) := by decide +kernel
theorem dL_law_260 : decode cL_law 260 = .ok (.iconst 0, 1) := by decide +kernel
theorem dL_law_261 : decode cL_law 261 = .ok (.ireturn, 1) := by decide +kernel
theorem dL_law_262 : decode cL_law 262 = .ok (.aload_n 1, 1) := by decide +kernel
theorem dL_law_263 : decode cL_law 263 = .ok (.aload_n 0, 1) := by decide +kernel
theorem dL_law_264 : decode cL_law 264 = .ok (.iload_n 3, 1) := by decide +kernel
theorem dL_law_265 : decode cL_law 265 = .ok (.iconst 1, 1) := by decide +kernel
theorem dL_law_266 : decode cL_law 266 = .ok (.iadd, 1) := by decide +kernel
theorem dL_law_267 : decode cL_law 267 = .ok (.iaload, 1) := by decide +kernel
theorem dL_law_268 : decode cL_law 268 = .ok (.aload_n 0, 1) := by decide +kernel
theorem dL_law_269 : decode cL_law 269 = .ok (.iload_n 3, 1) := by decide +kernel
theorem dL_law_270 : decode cL_law 270 = .ok (.iconst 2, 1) := by decide +kernel
theorem dL_law_271 : decode cL_law 271 = .ok (.iadd, 1) := by decide +kernel
theorem dL_law_272 : decode cL_law 272 = .ok (.iaload, 1) := by decide +kernel
theorem dL_law_273 : decode cL_law 273 = .ok (.invokevirtual 22, 3) := by decide +kernel
theorem dL_law_276 : decode cL_law 276 = .ok (.aload_n 2, 1) := by decide +kernel
theorem dL_law_277 : decode cL_law 277 = .ok (.aload_n 0, 1) := by decide +kernel
theorem dL_law_278 : decode cL_law 278 = .ok (.iload_n 3, 1) := by decide +kernel
theorem dL_law_279 : decode cL_law 279 = .ok (.iconst 1, 1) := by decide +kernel
theorem dL_law_280 : decode cL_law 280 = .ok (.iadd, 1) := by decide +kernel
theorem dL_law_281 : decode cL_law 281 = .ok (.iaload, 1) := by decide +kernel
theorem dL_law_282 : decode cL_law 282 = .ok (.aload_n 0, 1) := by decide +kernel
theorem dL_law_283 : decode cL_law 283 = .ok (.iload_n 3, 1) := by decide +kernel
theorem dL_law_284 : decode cL_law 284 = .ok (.iconst 2, 1) := by decide +kernel
theorem dL_law_285 : decode cL_law 285 = .ok (.iadd, 1) := by decide +kernel
theorem dL_law_286 : decode cL_law 286 = .ok (.iaload, 1) := by decide +kernel
theorem dL_law_287 : decode cL_law 287 = .ok (.invokevirtual 25, 3) := by decide +kernel
theorem dL_law_290 : decode cL_law 290 = .ok (.if_icmp .eq 1107, 3) := by decide +kernel
theorem dL_law_293 : decode cL_law 293 = .ok (.iconst 0, 1) := by decide +kernel
theorem dL_law_294 : decode cL_law 294 = .ok (.ireturn, 1) := by decide +kernel
theorem dL_law_295 : decode cL_law 295 = .ok (.aload_n 1, 1) := by decide +kernel
theorem dL_law_296 : decode cL_law 296 = .ok (.aload_n 0, 1) := by decide +kernel
theorem dL_law_297 : decode cL_law 297 = .ok (.iload_n 3, 1) := by decide +kernel
theorem dL_law_298 : decode cL_law 298 = .ok (.iconst 1, 1) := by decide +kernel
theorem dL_law_299 : decode cL_law 299 = .ok (.iadd, 1) := by decide +kernel
theorem dL_law_300 : decode cL_law 300 = .ok (.iaload, 1) := by decide +kernel
theorem dL_law_301 : decode cL_law 301 = .ok (.invokevirtual 26, 3) := by decide +kernel
theorem dL_law_304 : decode cL_law 304 = .ok (.aload_n 2, 1) := by decide +kernel
theorem dL_law_305 : decode cL_law 305 = .ok (.aload_n 0, 1) := by decide +kernel
theorem dL_law_306 : decode cL_law 306 = .ok (.iload_n 3, 1) := by decide +kernel
theorem dL_law_307 : decode cL_law 307 = .ok (.iconst 1, 1) := by decide +kernel
theorem dL_law_308 : decode cL_law 308 = .ok (.iadd, 1) := by decide +kernel
theorem dL_law_309 : decode cL_law 309 = .ok (.iaload, 1) := by decide +kernel
theorem dL_law_310 : decode cL_law 310 = .ok (.invokevirtual 30, 3) := by decide +kernel
theorem dL_law_313 : decode cL_law 313 = .ok (.if_icmp .eq 1084, 3) := by decide +kernel
theorem dL_law_316 : decode cL_law 316 = .ok (.iconst 0, 1) := by decide +kernel
theorem dL_law_317 : decode cL_law 317 = .ok (.ireturn, 1) := by decide +kernel
theorem dL_law_318 : decode cL_law 318 = .ok (.aload_n 1, 1) := by decide +kernel
theorem dL_law_319 : decode cL_law 319 = .ok (.aload_n 0, 1) := by decide +kernel
theorem dL_law_320 : decode cL_law 320 = .ok (.iload_n 3, 1) := by decide +kernel
theorem dL_law_321 : decode cL_law 321 = .ok (.iconst 1, 1) := by decide +kernel
theorem dL_law_322 : decode cL_law 322 = .ok (.iadd, 1) := by decide +kernel
theorem dL_law_323 : decode cL_law 323 = .ok (.iaload, 1) := by decide +kernel
theorem dL_law_324 : decode cL_law 324 = .ok (.aload_n 0, 1) := by decide +kernel
theorem dL_law_325 : decode cL_law 325 = .ok (.iload_n 3, 1) := by decide +kernel
theorem dL_law_326 : decode cL_law 326 = .ok (.iconst 2, 1) := by decide +kernel
theorem dL_law_327 : decode cL_law 327 = .ok (.iadd, 1) := by decide +kernel
theorem dL_law_328 : decode cL_law 328 = .ok (.iaload, 1) := by decide +kernel
theorem dL_law_329 : decode cL_law 329 = .ok (.invokevirtual 31, 3) := by decide +kernel
theorem dL_law_332 : decode cL_law 332 = .ok (.aload_n 2, 1) := by decide +kernel
theorem dL_law_333 : decode cL_law 333 = .ok (.aload_n 0, 1) := by decide +kernel
theorem dL_law_334 : decode cL_law 334 = .ok (.iload_n 3, 1) := by decide +kernel
theorem dL_law_335 : decode cL_law 335 = .ok (.iconst 1, 1) := by decide +kernel
theorem dL_law_336 : decode cL_law 336 = .ok (.iadd, 1) := by decide +kernel
theorem dL_law_337 : decode cL_law 337 = .ok (.iaload, 1) := by decide +kernel
theorem dL_law_338 : decode cL_law 338 = .ok (.aload_n 0, 1) := by decide +kernel
theorem dL_law_339 : decode cL_law 339 = .ok (.iload_n 3, 1) := by decide +kernel
theorem dL_law_340 : decode cL_law 340 = .ok (.iconst 2, 1) := by decide +kernel
theorem dL_law_341 : decode cL_law 341 = .ok (.iadd, 1) := by decide +kernel
theorem dL_law_342 : decode cL_law 342 = .ok (.iaload, 1) := by decide +kernel
theorem dL_law_343 : decode cL_law 343 = .ok (.invokevirtual 34, 3) := by decide +kernel
theorem dL_law_346 : decode cL_law 346 = .ok (.if_icmp .eq 1051, 3) := by decide +kernel
theorem dL_law_349 : decode cL_law 349 = .ok (.iconst 0, 1) := by decide +kernel
theorem dL_law_350 : decode cL_law 350 = .ok (.ireturn, 1) := by decide +kernel
theorem dL_law_351 : decode cL_law 351 = .ok (.aload_n 1, 1) := by decide +kernel
theorem dL_law_352 : decode cL_law 352 = .ok (.aload_n 0, 1) := by decide +kernel
theorem dL_law_353 : decode cL_law 353 = .ok (.iload_n 3, 1) := by decide +kernel
theorem dL_law_354 : decode cL_law 354 = .ok (.iconst 1, 1) := by decide +kernel
theorem dL_law_355 : decode cL_law 355 = .ok (.iadd, 1) := by decide +kernel
theorem dL_law_356 : decode cL_law 356 = .ok (.iaload, 1) := by decide +kernel
theorem dL_law_357 : decode cL_law 357 = .ok (.aload_n 0, 1) := by decide +kernel
theorem dL_law_358 : decode cL_law 358 = .ok (.iload_n 3, 1) := by decide +kernel
theorem dL_law_359 : decode cL_law 359 = .ok (.iconst 2, 1) := by decide +kernel
theorem dL_law_360 : decode cL_law 360 = .ok (.iadd, 1) := by decide +kernel
theorem dL_law_361 : decode cL_law 361 = .ok (.iaload, 1) := by decide +kernel
theorem dL_law_362 : decode cL_law 362 = .ok (.invokevirtual 35, 3) := by decide +kernel
theorem dL_law_365 : decode cL_law 365 = .ok (.aload_n 2, 1) := by decide +kernel
theorem dL_law_366 : decode cL_law 366 = .ok (.aload_n 0, 1) := by decide +kernel
theorem dL_law_367 : decode cL_law 367 = .ok (.iload_n 3, 1) := by decide +kernel
theorem dL_law_368 : decode cL_law 368 = .ok (.iconst 1, 1) := by decide +kernel
theorem dL_law_369 : decode cL_law 369 = .ok (.iadd, 1) := by decide +kernel
theorem dL_law_370 : decode cL_law 370 = .ok (.iaload, 1) := by decide +kernel
theorem dL_law_371 : decode cL_law 371 = .ok (.aload_n 0, 1) := by decide +kernel
theorem dL_law_372 : decode cL_law 372 = .ok (.iload_n 3, 1) := by decide +kernel
theorem dL_law_373 : decode cL_law 373 = .ok (.iconst 2, 1) := by decide +kernel
theorem dL_law_374 : decode cL_law 374 = .ok (.iadd, 1) := by decide +kernel
theorem dL_law_375 : decode cL_law 375 = .ok (.iaload, 1) := by decide +kernel
theorem dL_law_376 : decode cL_law 376 = .ok (.invokevirtual 38, 3) := by decide +kernel
theorem dL_law_379 : decode cL_law 379 = .ok (.if_icmp .eq 1018, 3) := by decide +kernel
theorem dL_law_382 : decode cL_law 382 = .ok (.iconst 0, 1) := by decide +kernel
theorem dL_law_383 : decode cL_law 383 = .ok (.ireturn, 1) := by decide +kernel
theorem dL_law_384 : decode cL_law 384 = .ok (.aload_n 1, 1) := by decide +kernel
theorem dL_law_385 : decode cL_law 385 = .ok (.aload_n 0, 1) := by decide +kernel
theorem dL_law_386 : decode cL_law 386 = .ok (.iload_n 3, 1) := by decide +kernel
theorem dL_law_387 : decode cL_law 387 = .ok (.iconst 1, 1) := by decide +kernel
theorem dL_law_388 : decode cL_law 388 = .ok (.iadd, 1) := by decide +kernel
theorem dL_law_389 : decode cL_law 389 = .ok (.iaload, 1) := by decide +kernel
theorem dL_law_390 : decode cL_law 390 = .ok (.aload_n 0, 1) := by decide +kernel
theorem dL_law_391 : decode cL_law 391 = .ok (.iload_n 3, 1) := by decide +kernel
theorem dL_law_392 : decode cL_law 392 = .ok (.iconst 2, 1) := by decide +kernel
theorem dL_law_393 : decode cL_law 393 = .ok (.iadd, 1) := by decide +kernel
theorem dL_law_394 : decode cL_law 394 = .ok (.iaload, 1) := by decide +kernel
theorem dL_law_395 : decode cL_law 395 = .ok (.invokevirtual 39, 3) := by decide +kernel
theorem dL_law_398 : decode cL_law 398 = .ok (.aload_n 2, 1) := by decide +kernel
theorem dL_law_399 : decode cL_law 399 = .ok (.aload_n 0, 1) := by decide +kernel
theorem dL_law_400 : decode cL_law 400 = .ok (.iload_n 3, 1) := by decide +kernel
theorem dL_law_401 : decode cL_law 401 = .ok (.iconst 1, 1) := by decide +kernel
theorem dL_law_402 : decode cL_law 402 = .ok (.iadd, 1) := by decide +kernel
theorem dL_law_403 : decode cL_law 403 = .ok (.iaload, 1) := by decide +kernel
theorem dL_law_404 : decode cL_law 404 = .ok (.aload_n 0, 1) := by decide +kernel
theorem dL_law_405 : decode cL_law 405 = .ok (.iload_n 3, 1) := by decide +kernel
theorem dL_law_406 : decode cL_law 406 = .ok (.iconst 2, 1) := by decide +kernel
theorem dL_law_407 : decode cL_law 407 = .ok (.iadd, 1) := by decide +kernel
theorem dL_law_408 : decode cL_law 408 = .ok (.iaload, 1) := by decide +kernel
theorem dL_law_409 : decode cL_law 409 = .ok (.invokevirtual 42, 3) := by decide +kernel
theorem dL_law_412 : decode cL_law 412 = .ok (.if_icmp .eq 985, 3) := by decide +kernel
theorem dL_law_415 : decode cL_law 415 = .ok (.iconst 0, 1) := by decide +kernel
theorem dL_law_416 : decode cL_law 416 = .ok (.ireturn, 1) := by decide +kernel
theorem dL_law_417 : decode cL_law 417 = .ok (.aload_n 1, 1) := by decide +kernel
theorem dL_law_418 : decode cL_law 418 = .ok (.aload_n 0, 1) := by decide +kernel
theorem dL_law_419 : decode cL_law 419 = .ok (.iload_n 3, 1) := by decide +kernel
theorem dL_law_420 : decode cL_law 420 = .ok (.iconst 1, 1) := by decide +kernel
theorem dL_law_421 : decode cL_law 421 = .ok (.iadd, 1) := by decide +kernel
theorem dL_law_422 : decode cL_law 422 = .ok (.iaload, 1) := by decide +kernel
theorem dL_law_423 : decode cL_law 423 = .ok (.i2l, 1) := by decide +kernel
theorem dL_law_424 : decode cL_law 424 = .ok (.bipush 32, 2) := by decide +kernel
theorem dL_law_426 : decode cL_law 426 = .ok (.lshl, 1) := by decide +kernel
theorem dL_law_427 : decode cL_law 427 = .ok (.aload_n 0, 1) := by decide +kernel
theorem dL_law_428 : decode cL_law 428 = .ok (.iload_n 3, 1) := by decide +kernel
theorem dL_law_429 : decode cL_law 429 = .ok (.iconst 2, 1) := by decide +kernel
theorem dL_law_430 : decode cL_law 430 = .ok (.iadd, 1) := by decide +kernel
theorem dL_law_431 : decode cL_law 431 = .ok (.iaload, 1) := by decide +kernel
theorem dL_law_432 : decode cL_law 432 = .ok (.i2l, 1) := by decide +kernel
theorem dL_law_433 : decode cL_law 433 = .ok (.ldc2_w 43, 3) := by decide +kernel
theorem dL_law_436 : decode cL_law 436 = .ok (.land, 1) := by decide +kernel
theorem dL_law_437 : decode cL_law 437 = .ok (.lor, 1) := by decide +kernel
theorem dL_law_438 : decode cL_law 438 = .ok (.aload_n 0, 1) := by decide +kernel
theorem dL_law_439 : decode cL_law 439 = .ok (.iload_n 3, 1) := by decide +kernel
theorem dL_law_440 : decode cL_law 440 = .ok (.iconst 3, 1) := by decide +kernel
theorem dL_law_441 : decode cL_law 441 = .ok (.iadd, 1) := by decide +kernel
theorem dL_law_442 : decode cL_law 442 = .ok (.iaload, 1) := by decide +kernel
theorem dL_law_443 : decode cL_law 443 = .ok (.invokevirtual 45, 3) := by decide +kernel
theorem dL_law_446 : decode cL_law 446 = .ok (.aload_n 2, 1) := by decide +kernel
theorem dL_law_447 : decode cL_law 447 = .ok (.aload_n 0, 1) := by decide +kernel
theorem dL_law_448 : decode cL_law 448 = .ok (.iload_n 3, 1) := by decide +kernel
theorem dL_law_449 : decode cL_law 449 = .ok (.iconst 1, 1) := by decide +kernel
theorem dL_law_450 : decode cL_law 450 = .ok (.iadd, 1) := by decide +kernel
theorem dL_law_451 : decode cL_law 451 = .ok (.iaload, 1) := by decide +kernel
theorem dL_law_452 : decode cL_law 452 = .ok (.i2l, 1) := by decide +kernel
theorem dL_law_453 : decode cL_law 453 = .ok (.bipush 32, 2) := by decide +kernel
theorem dL_law_455 : decode cL_law 455 = .ok (.lshl, 1) := by decide +kernel
theorem dL_law_456 : decode cL_law 456 = .ok (.aload_n 0, 1) := by decide +kernel
theorem dL_law_457 : decode cL_law 457 = .ok (.iload_n 3, 1) := by decide +kernel
theorem dL_law_458 : decode cL_law 458 = .ok (.iconst 2, 1) := by decide +kernel
theorem dL_law_459 : decode cL_law 459 = .ok (.iadd, 1) := by decide +kernel
theorem dL_law_460 : decode cL_law 460 = .ok (.iaload, 1) := by decide +kernel
theorem dL_law_461 : decode cL_law 461 = .ok (.i2l, 1) := by decide +kernel
theorem dL_law_462 : decode cL_law 462 = .ok (.ldc2_w 43, 3) := by decide +kernel
theorem dL_law_465 : decode cL_law 465 = .ok (.land, 1) := by decide +kernel
theorem dL_law_466 : decode cL_law 466 = .ok (.lor, 1) := by decide +kernel
theorem dL_law_467 : decode cL_law 467 = .ok (.aload_n 0, 1) := by decide +kernel
theorem dL_law_468 : decode cL_law 468 = .ok (.iload_n 3, 1) := by decide +kernel
theorem dL_law_469 : decode cL_law 469 = .ok (.iconst 3, 1) := by decide +kernel
theorem dL_law_470 : decode cL_law 470 = .ok (.iadd, 1) := by decide +kernel
theorem dL_law_471 : decode cL_law 471 = .ok (.iaload, 1) := by decide +kernel
theorem dL_law_472 : decode cL_law 472 = .ok (.invokevirtual 49, 3) := by decide +kernel
theorem dL_law_475 : decode cL_law 475 = .ok (.if_icmp .eq 922, 3) := by decide +kernel
theorem dL_law_478 : decode cL_law 478 = .ok (.iconst 0, 1) := by decide +kernel
theorem dL_law_479 : decode cL_law 479 = .ok (.ireturn, 1) := by decide +kernel
theorem dL_law_480 : decode cL_law 480 = .ok (.aload_n 1, 1) := by decide +kernel
theorem dL_law_481 : decode cL_law 481 = .ok (.aload_n 0, 1) := by decide +kernel
theorem dL_law_482 : decode cL_law 482 = .ok (.iload_n 3, 1) := by decide +kernel
theorem dL_law_483 : decode cL_law 483 = .ok (.iconst 1, 1) := by decide +kernel
theorem dL_law_484 : decode cL_law 484 = .ok (.iadd, 1) := by decide +kernel
theorem dL_law_485 : decode cL_law 485 = .ok (.iaload, 1) := by decide +kernel
theorem dL_law_486 : decode cL_law 486 = .ok (.invokevirtual 50, 3) := by decide +kernel
theorem dL_law_489 : decode cL_law 489 = .ok (.aload_n 2, 1) := by decide +kernel
theorem dL_law_490 : decode cL_law 490 = .ok (.aload_n 0, 1) := by decide +kernel
theorem dL_law_491 : decode cL_law 491 = .ok (.iload_n 3, 1) := by decide +kernel
theorem dL_law_492 : decode cL_law 492 = .ok (.iconst 1, 1) := by decide +kernel
theorem dL_law_493 : decode cL_law 493 = .ok (.iadd, 1) := by decide +kernel
theorem dL_law_494 : decode cL_law 494 = .ok (.iaload, 1) := by decide +kernel
theorem dL_law_495 : decode cL_law 495 = .ok (.invokevirtual 53, 3) := by decide +kernel
theorem dL_law_498 : decode cL_law 498 = .ok (.if_icmp .eq 899, 3) := by decide +kernel
theorem dL_law_501 : decode cL_law 501 = .ok (.iconst 0, 1) := by decide +kernel
theorem dL_law_502 : decode cL_law 502 = .ok (.ireturn, 1) := by decide +kernel
theorem dL_law_503 : decode cL_law 503 = .ok (.aload_n 1, 1) := by decide +kernel
theorem dL_law_504 : decode cL_law 504 = .ok (.aload_n 0, 1) := by decide +kernel
theorem dL_law_505 : decode cL_law 505 = .ok (.iload_n 3, 1) := by decide +kernel
theorem dL_law_506 : decode cL_law 506 = .ok (.iconst 1, 1) := by decide +kernel
theorem dL_law_507 : decode cL_law 507 = .ok (.iadd, 1) := by decide +kernel
theorem dL_law_508 : decode cL_law 508 = .ok (.iaload, 1) := by decide +kernel
theorem dL_law_509 : decode cL_law 509 = .ok (.aload_n 0, 1) := by decide +kernel
theorem dL_law_510 : decode cL_law 510 = .ok (.iload_n 3, 1) := by decide +kernel
theorem dL_law_511 : decode cL_law 511 = .ok (.iconst 2, 1) := by decide +kernel
theorem dL_law_512 : decode cL_law 512 = .ok (.iadd, 1) := by decide +kernel
theorem dL_law_513 : decode cL_law 513 = .ok (.iaload, 1) := by decide +kernel
theorem dL_law_514 : decode cL_law 514 = .ok (.aload_n 0, 1) := by decide +kernel
theorem dL_law_515 : decode cL_law 515 = .ok (.iload_n 3, 1) := by decide +kernel
theorem dL_law_516 : decode cL_law 516 = .ok (.iconst 3, 1) := by decide +kernel
theorem dL_law_517 : decode cL_law 517 = .ok (.iadd, 1) := by decide +kernel
theorem dL_law_518 : decode cL_law 518 = .ok (.iaload, 1) := by decide +kernel
theorem dL_law_519 : decode cL_law 519 = .ok (.aload_n 0, 1) := by decide +kernel
theorem dL_law_520 : decode cL_law 520 = .ok (.iload_n 3, 1) := by decide +kernel
theorem dL_law_521 : decode cL_law 521 = .ok (.iconst 4, 1) := by decide +kernel
theorem dL_law_522 : decode cL_law 522 = .ok (.iadd, 1) := by decide +kernel
theorem dL_law_523 : decode cL_law 523 = .ok (.iaload, 1) := by decide +kernel
theorem dL_law_524 : decode cL_law 524 = .ok (.invokevirtual 54, 3) := by decide +kernel
theorem dL_law_527 : decode cL_law 527 = .ok (.aload_n 2, 1) := by decide +kernel
theorem dL_law_528 : decode cL_law 528 = .ok (.aload_n 0, 1) := by decide +kernel
theorem dL_law_529 : decode cL_law 529 = .ok (.iload_n 3, 1) := by decide +kernel
theorem dL_law_530 : decode cL_law 530 = .ok (.iconst 1, 1) := by decide +kernel
theorem dL_law_531 : decode cL_law 531 = .ok (.iadd, 1) := by decide +kernel
theorem dL_law_532 : decode cL_law 532 = .ok (.iaload, 1) := by decide +kernel
theorem dL_law_533 : decode cL_law 533 = .ok (.aload_n 0, 1) := by decide +kernel
theorem dL_law_534 : decode cL_law 534 = .ok (.iload_n 3, 1) := by decide +kernel
theorem dL_law_535 : decode cL_law 535 = .ok (.iconst 2, 1) := by decide +kernel
theorem dL_law_536 : decode cL_law 536 = .ok (.iadd, 1) := by decide +kernel
theorem dL_law_537 : decode cL_law 537 = .ok (.iaload, 1) := by decide +kernel
theorem dL_law_538 : decode cL_law 538 = .ok (.aload_n 0, 1) := by decide +kernel
theorem dL_law_539 : decode cL_law 539 = .ok (.iload_n 3, 1) := by decide +kernel
theorem dL_law_540 : decode cL_law 540 = .ok (.iconst 3, 1) := by decide +kernel
theorem dL_law_541 : decode cL_law 541 = .ok (.iadd, 1) := by decide +kernel
theorem dL_law_542 : decode cL_law 542 = .ok (.iaload, 1) := by decide +kernel
theorem dL_law_543 : decode cL_law 543 = .ok (.aload_n 0, 1) := by decide +kernel
theorem dL_law_544 : decode cL_law 544 = .ok (.iload_n 3, 1) := by decide +kernel
theorem dL_law_545 : decode cL_law 545 = .ok (.iconst 4, 1) := by decide +kernel
theorem dL_law_546 : decode cL_law 546 = .ok (.iadd, 1) := by decide +kernel
theorem dL_law_547 : decode cL_law 547 = .ok (.iaload, 1) := by decide +kernel
theorem dL_law_548 : decode cL_law 548 = .ok (.invokevirtual 58, 3) := by decide +kernel
theorem dL_law_551 : decode cL_law 551 = .ok (.if_icmp .eq 846, 3) := by decide +kernel
theorem dL_law_554 : decode cL_law 554 = .ok (.iconst 0, 1) := by decide +kernel
theorem dL_law_555 : decode cL_law 555 = .ok (.ireturn, 1) := by decide +kernel
theorem dL_law_556 : decode cL_law 556 = .ok (.aload_n 1, 1) := by decide +kernel
theorem dL_law_557 : decode cL_law 557 = .ok (.aload_n 0, 1) := by decide +kernel
theorem dL_law_558 : decode cL_law 558 = .ok (.iload_n 3, 1) := by decide +kernel
theorem dL_law_559 : decode cL_law 559 = .ok (.iconst 1, 1) := by decide +kernel
theorem dL_law_560 : decode cL_law 560 = .ok (.iadd, 1) := by decide +kernel
theorem dL_law_561 : decode cL_law 561 = .ok (.iaload, 1) := by decide +kernel
theorem dL_law_562 : decode cL_law 562 = .ok (.aload_n 0, 1) := by decide +kernel
theorem dL_law_563 : decode cL_law 563 = .ok (.iload_n 3, 1) := by decide +kernel
theorem dL_law_564 : decode cL_law 564 = .ok (.iconst 2, 1) := by decide +kernel
theorem dL_law_565 : decode cL_law 565 = .ok (.iadd, 1) := by decide +kernel
theorem dL_law_566 : decode cL_law 566 = .ok (.iaload, 1) := by decide +kernel
theorem dL_law_567 : decode cL_law 567 = .ok (.aload_n 0, 1) := by decide +kernel
theorem dL_law_568 : decode cL_law 568 = .ok (.iload_n 3, 1) := by decide +kernel
theorem dL_law_569 : decode cL_law 569 = .ok (.iconst 3, 1) := by decide +kernel
theorem dL_law_570 : decode cL_law 570 = .ok (.iadd, 1) := by decide +kernel
theorem dL_law_571 : decode cL_law 571 = .ok (.iaload, 1) := by decide +kernel
theorem dL_law_572 : decode cL_law 572 = .ok (.invokevirtual 59, 3) := by decide +kernel
theorem dL_law_575 : decode cL_law 575 = .ok (.aload_n 2, 1) := by decide +kernel
theorem dL_law_576 : decode cL_law 576 = .ok (.aload_n 0, 1) := by decide +kernel
theorem dL_law_577 : decode cL_law 577 = .ok (.iload_n 3, 1) := by decide +kernel
theorem dL_law_578 : decode cL_law 578 = .ok (.iconst 1, 1) := by decide +kernel
theorem dL_law_579 : decode cL_law 579 = .ok (.iadd, 1) := by decide +kernel
theorem dL_law_580 : decode cL_law 580 = .ok (.iaload, 1) := by decide +kernel
theorem dL_law_581 : decode cL_law 581 = .ok (.aload_n 0, 1) := by decide +kernel
theorem dL_law_582 : decode cL_law 582 = .ok (.iload_n 3, 1) := by decide +kernel
theorem dL_law_583 : decode cL_law 583 = .ok (.iconst 2, 1) := by decide +kernel
theorem dL_law_584 : decode cL_law 584 = .ok (.iadd, 1) := by decide +kernel
theorem dL_law_585 : decode cL_law 585 = .ok (.iaload, 1) := by decide +kernel
theorem dL_law_586 : decode cL_law 586 = .ok (.aload_n 0, 1) := by decide +kernel
theorem dL_law_587 : decode cL_law 587 = .ok (.iload_n 3, 1) := by decide +kernel
theorem dL_law_588 : decode cL_law 588 = .ok (.iconst 3, 1) := by decide +kernel
theorem dL_law_589 : decode cL_law 589 = .ok (.iadd, 1) := by decide +kernel
theorem dL_law_590 : decode cL_law 590 = .ok (.iaload, 1) := by decide +kernel
theorem dL_law_591 : decode cL_law 591 = .ok (.invokevirtual 63, 3) := by decide +kernel
theorem dL_law_594 : decode cL_law 594 = .ok (.if_icmp .eq 803, 3) := by decide +kernel
theorem dL_law_597 : decode cL_law 597 = .ok (.iconst 0, 1) := by decide +kernel
theorem dL_law_598 : decode cL_law 598 = .ok (.ireturn, 1) := by decide +kernel
theorem dL_law_599 : decode cL_law 599 = .ok (.aload_n 1, 1) := by decide +kernel
theorem dL_law_600 : decode cL_law 600 = .ok (.aload_n 0, 1) := by decide +kernel
theorem dL_law_601 : decode cL_law 601 = .ok (.iload_n 3, 1) := by decide +kernel
theorem dL_law_602 : decode cL_law 602 = .ok (.iconst 1, 1) := by decide +kernel
theorem dL_law_603 : decode cL_law 603 = .ok (.iadd, 1) := by decide +kernel
theorem dL_law_604 : decode cL_law 604 = .ok (.iaload, 1) := by decide +kernel
theorem dL_law_605 : decode cL_law 605 = .ok (.invokevirtual 64, 3) := by decide +kernel
theorem dL_law_608 : decode cL_law 608 = .ok (.aload_n 2, 1) := by decide +kernel
theorem dL_law_609 : decode cL_law 609 = .ok (.aload_n 0, 1) := by decide +kernel
theorem dL_law_610 : decode cL_law 610 = .ok (.iload_n 3, 1) := by decide +kernel
theorem dL_law_611 : decode cL_law 611 = .ok (.iconst 1, 1) := by decide +kernel
theorem dL_law_612 : decode cL_law 612 = .ok (.iadd, 1) := by decide +kernel
theorem dL_law_613 : decode cL_law 613 = .ok (.iaload, 1) := by decide +kernel
theorem dL_law_614 : decode cL_law 614 = .ok (.invokevirtual 67, 3) := by decide +kernel
theorem dL_law_617 : decode cL_law 617 = .ok (.if_icmp .eq 780, 3) := by decide +kernel
theorem dL_law_620 : decode cL_law 620 = .ok (.iconst 0, 1) := by decide +kernel
theorem dL_law_621 : decode cL_law 621 = .ok (.ireturn, 1) := by decide +kernel
theorem dL_law_622 : decode cL_law 622 = .ok (.aload_n 1, 1) := by decide +kernel
theorem dL_law_623 : decode cL_law 623 = .ok (.aload_n 0, 1) := by decide +kernel
theorem dL_law_624 : decode cL_law 624 = .ok (.iload_n 3, 1) := by decide +kernel
theorem dL_law_625 : decode cL_law 625 = .ok (.iconst 1, 1) := by decide +kernel
theorem dL_law_626 : decode cL_law 626 = .ok (.iadd, 1) := by decide +kernel
theorem dL_law_627 : decode cL_law 627 = .ok (.iaload, 1) := by decide +kernel
theorem dL_law_628 : decode cL_law 628 = .ok (.invokevirtual 68, 3) := by decide +kernel
theorem dL_law_631 : decode cL_law 631 = .ok (.aload_n 2, 1) := by decide +kernel
theorem dL_law_632 : decode cL_law 632 = .ok (.aload_n 0, 1) := by decide +kernel
theorem dL_law_633 : decode cL_law 633 = .ok (.iload_n 3, 1) := by decide +kernel
theorem dL_law_634 : decode cL_law 634 = .ok (.iconst 1, 1) := by decide +kernel
theorem dL_law_635 : decode cL_law 635 = .ok (.iadd, 1) := by decide +kernel
theorem dL_law_636 : decode cL_law 636 = .ok (.iaload, 1) := by decide +kernel
theorem dL_law_637 : decode cL_law 637 = .ok (.invokevirtual 71, 3) := by decide +kernel
theorem dL_law_640 : decode cL_law 640 = .ok (.if_icmp .eq 757, 3) := by decide +kernel
theorem dL_law_643 : decode cL_law 643 = .ok (.iconst 0, 1) := by decide +kernel
theorem dL_law_644 : decode cL_law 644 = .ok (.ireturn, 1) := by decide +kernel
theorem dL_law_645 : decode cL_law 645 = .ok (.aload_n 1, 1) := by decide +kernel
theorem dL_law_646 : decode cL_law 646 = .ok (.aload_n 0, 1) := by decide +kernel
theorem dL_law_647 : decode cL_law 647 = .ok (.iload_n 3, 1) := by decide +kernel
theorem dL_law_648 : decode cL_law 648 = .ok (.iconst 1, 1) := by decide +kernel
theorem dL_law_649 : decode cL_law 649 = .ok (.iadd, 1) := by decide +kernel
theorem dL_law_650 : decode cL_law 650 = .ok (.iaload, 1) := by decide +kernel
theorem dL_law_651 : decode cL_law 651 = .ok (.invokevirtual 72, 3) := by decide +kernel
theorem dL_law_654 : decode cL_law 654 = .ok (.aload_n 2, 1) := by decide +kernel
theorem dL_law_655 : decode cL_law 655 = .ok (.aload_n 0, 1) := by decide +kernel
theorem dL_law_656 : decode cL_law 656 = .ok (.iload_n 3, 1) := by decide +kernel
theorem dL_law_657 : decode cL_law 657 = .ok (.iconst 1, 1) := by decide +kernel
theorem dL_law_658 : decode cL_law 658 = .ok (.iadd, 1) := by decide +kernel
theorem dL_law_659 : decode cL_law 659 = .ok (.iaload, 1) := by decide +kernel
theorem dL_law_660 : decode cL_law 660 = .ok (.invokevirtual 75, 3) := by decide +kernel
theorem dL_law_663 : decode cL_law 663 = .ok (.if_icmp .eq 734, 3) := by decide +kernel
theorem dL_law_666 : decode cL_law 666 = .ok (.iconst 0, 1) := by decide +kernel
theorem dL_law_667 : decode cL_law 667 = .ok (.ireturn, 1) := by decide +kernel
theorem dL_law_668 : decode cL_law 668 = .ok (.aload_n 1, 1) := by decide +kernel
theorem dL_law_669 : decode cL_law 669 = .ok (.aload_n 0, 1) := by decide +kernel
theorem dL_law_670 : decode cL_law 670 = .ok (.iload_n 3, 1) := by decide +kernel
theorem dL_law_671 : decode cL_law 671 = .ok (.iconst 1, 1) := by decide +kernel
theorem dL_law_672 : decode cL_law 672 = .ok (.iadd, 1) := by decide +kernel
theorem dL_law_673 : decode cL_law 673 = .ok (.iaload, 1) := by decide +kernel
theorem dL_law_674 : decode cL_law 674 = .ok (.aload_n 0, 1) := by decide +kernel
theorem dL_law_675 : decode cL_law 675 = .ok (.iload_n 3, 1) := by decide +kernel
theorem dL_law_676 : decode cL_law 676 = .ok (.iconst 2, 1) := by decide +kernel
theorem dL_law_677 : decode cL_law 677 = .ok (.iadd, 1) := by decide +kernel
theorem dL_law_678 : decode cL_law 678 = .ok (.iaload, 1) := by decide +kernel
theorem dL_law_679 : decode cL_law 679 = .ok (.invokevirtual 76, 3) := by decide +kernel
theorem dL_law_682 : decode cL_law 682 = .ok (.aload_n 2, 1) := by decide +kernel
theorem dL_law_683 : decode cL_law 683 = .ok (.aload_n 0, 1) := by decide +kernel
theorem dL_law_684 : decode cL_law 684 = .ok (.iload_n 3, 1) := by decide +kernel
theorem dL_law_685 : decode cL_law 685 = .ok (.iconst 1, 1) := by decide +kernel
theorem dL_law_686 : decode cL_law 686 = .ok (.iadd, 1) := by decide +kernel
theorem dL_law_687 : decode cL_law 687 = .ok (.iaload, 1) := by decide +kernel
theorem dL_law_688 : decode cL_law 688 = .ok (.aload_n 0, 1) := by decide +kernel
theorem dL_law_689 : decode cL_law 689 = .ok (.iload_n 3, 1) := by decide +kernel
theorem dL_law_690 : decode cL_law 690 = .ok (.iconst 2, 1) := by decide +kernel
theorem dL_law_691 : decode cL_law 691 = .ok (.iadd, 1) := by decide +kernel
theorem dL_law_692 : decode cL_law 692 = .ok (.iaload, 1) := by decide +kernel
theorem dL_law_693 : decode cL_law 693 = .ok (.invokevirtual 79, 3) := by decide +kernel
theorem dL_law_696 : decode cL_law 696 = .ok (.if_icmp .eq 701, 3) := by decide +kernel
theorem dL_law_699 : decode cL_law 699 = .ok (.iconst 0, 1) := by decide +kernel
theorem dL_law_700 : decode cL_law 700 = .ok (.ireturn, 1) := by decide +kernel
theorem dL_law_701 : decode cL_law 701 = .ok (.aload_n 1, 1) := by decide +kernel
theorem dL_law_702 : decode cL_law 702 = .ok (.aload_n 0, 1) := by decide +kernel
theorem dL_law_703 : decode cL_law 703 = .ok (.iload_n 3, 1) := by decide +kernel
theorem dL_law_704 : decode cL_law 704 = .ok (.iconst 1, 1) := by decide +kernel
theorem dL_law_705 : decode cL_law 705 = .ok (.iadd, 1) := by decide +kernel
theorem dL_law_706 : decode cL_law 706 = .ok (.iaload, 1) := by decide +kernel
theorem dL_law_707 : decode cL_law 707 = .ok (.aload_n 0, 1) := by decide +kernel
theorem dL_law_708 : decode cL_law 708 = .ok (.iload_n 3, 1) := by decide +kernel
theorem dL_law_709 : decode cL_law 709 = .ok (.iconst 2, 1) := by decide +kernel
theorem dL_law_710 : decode cL_law 710 = .ok (.iadd, 1) := by decide +kernel
theorem dL_law_711 : decode cL_law 711 = .ok (.iaload, 1) := by decide +kernel
theorem dL_law_712 : decode cL_law 712 = .ok (.invokevirtual 80, 3) := by decide +kernel
theorem dL_law_715 : decode cL_law 715 = .ok (.aload_n 2, 1) := by decide +kernel
theorem dL_law_716 : decode cL_law 716 = .ok (.aload_n 0, 1) := by decide +kernel
theorem dL_law_717 : decode cL_law 717 = .ok (.iload_n 3, 1) := by decide +kernel
theorem dL_law_718 : decode cL_law 718 = .ok (.iconst 1, 1) := by decide +kernel
theorem dL_law_719 : decode cL_law 719 = .ok (.iadd, 1) := by decide +kernel
theorem dL_law_720 : decode cL_law 720 = .ok (.iaload, 1) := by decide +kernel
theorem dL_law_721 : decode cL_law 721 = .ok (.aload_n 0, 1) := by decide +kernel
theorem dL_law_722 : decode cL_law 722 = .ok (.iload_n 3, 1) := by decide +kernel
theorem dL_law_723 : decode cL_law 723 = .ok (.iconst 2, 1) := by decide +kernel
theorem dL_law_724 : decode cL_law 724 = .ok (.iadd, 1) := by decide +kernel
theorem dL_law_725 : decode cL_law 725 = .ok (.iaload, 1) := by decide +kernel
theorem dL_law_726 : decode cL_law 726 = .ok (.invokevirtual 83, 3) := by decide +kernel
theorem dL_law_729 : decode cL_law 729 = .ok (.if_icmp .eq 668, 3) := by decide +kernel
theorem dL_law_732 : decode cL_law 732 = .ok (.iconst 0, 1) := by decide +kernel
theorem dL_law_733 : decode cL_law 733 = .ok (.ireturn, 1) := by decide +kernel
theorem dL_law_734 : decode cL_law 734 = .ok (.aload_n 1, 1) := by decide +kernel
theorem dL_law_735 : decode cL_law 735 = .ok (.aload_n 0, 1) := by decide +kernel
theorem dL_law_736 : decode cL_law 736 = .ok (.iload_n 3, 1) := by decide +kernel
theorem dL_law_737 : decode cL_law 737 = .ok (.iconst 1, 1) := by decide +kernel
theorem dL_law_738 : decode cL_law 738 = .ok (.iadd, 1) := by decide +kernel
theorem dL_law_739 : decode cL_law 739 = .ok (.iaload, 1) := by decide +kernel
theorem dL_law_740 : decode cL_law 740 = .ok (.aload_n 0, 1) := by decide +kernel
theorem dL_law_741 : decode cL_law 741 = .ok (.iload_n 3, 1) := by decide +kernel
theorem dL_law_742 : decode cL_law 742 = .ok (.iconst 2, 1) := by decide +kernel
theorem dL_law_743 : decode cL_law 743 = .ok (.iadd, 1) := by decide +kernel
theorem dL_law_744 : decode cL_law 744 = .ok (.iaload, 1) := by decide +kernel
theorem dL_law_745 : decode cL_law 745 = .ok (.invokevirtual 84, 3) := by decide +kernel
theorem dL_law_748 : decode cL_law 748 = .ok (.aload_n 2, 1) := by decide +kernel
theorem dL_law_749 : decode cL_law 749 = .ok (.aload_n 0, 1) := by decide +kernel
theorem dL_law_750 : decode cL_law 750 = .ok (.iload_n 3, 1) := by decide +kernel
theorem dL_law_751 : decode cL_law 751 = .ok (.iconst 1, 1) := by decide +kernel
theorem dL_law_752 : decode cL_law 752 = .ok (.iadd, 1) := by decide +kernel
theorem dL_law_753 : decode cL_law 753 = .ok (.iaload, 1) := by decide +kernel
theorem dL_law_754 : decode cL_law 754 = .ok (.aload_n 0, 1) := by decide +kernel
theorem dL_law_755 : decode cL_law 755 = .ok (.iload_n 3, 1) := by decide +kernel
theorem dL_law_756 : decode cL_law 756 = .ok (.iconst 2, 1) := by decide +kernel
theorem dL_law_757 : decode cL_law 757 = .ok (.iadd, 1) := by decide +kernel
theorem dL_law_758 : decode cL_law 758 = .ok (.iaload, 1) := by decide +kernel
theorem dL_law_759 : decode cL_law 759 = .ok (.invokevirtual 87, 3) := by decide +kernel
theorem dL_law_762 : decode cL_law 762 = .ok (.if_icmp .eq 635, 3) := by decide +kernel
theorem dL_law_765 : decode cL_law 765 = .ok (.iconst 0, 1) := by decide +kernel
theorem dL_law_766 : decode cL_law 766 = .ok (.ireturn, 1) := by decide +kernel
theorem dL_law_767 : decode cL_law 767 = .ok (.aload_n 1, 1) := by decide +kernel
theorem dL_law_768 : decode cL_law 768 = .ok (.aload_n 0, 1) := by decide +kernel
theorem dL_law_769 : decode cL_law 769 = .ok (.iload_n 3, 1) := by decide +kernel
theorem dL_law_770 : decode cL_law 770 = .ok (.iconst 1, 1) := by decide +kernel
theorem dL_law_771 : decode cL_law 771 = .ok (.iadd, 1) := by decide +kernel
theorem dL_law_772 : decode cL_law 772 = .ok (.iaload, 1) := by decide +kernel
theorem dL_law_773 : decode cL_law 773 = .ok (.aload_n 0, 1) := by decide +kernel
theorem dL_law_774 : decode cL_law 774 = .ok (.iload_n 3, 1) := by decide +kernel
theorem dL_law_775 : decode cL_law 775 = .ok (.iconst 2, 1) := by decide +kernel
theorem dL_law_776 : decode cL_law 776 = .ok (.iadd, 1) := by decide +kernel
theorem dL_law_777 : decode cL_law 777 = .ok (.iaload, 1) := by decide +kernel
theorem dL_law_778 : decode cL_law 778 = .ok (.aload_n 0, 1) := by decide +kernel
theorem dL_law_779 : decode cL_law 779 = .ok (.iload_n 3, 1) := by decide +kernel
theorem dL_law_780 : decode cL_law 780 = .ok (.iconst 3, 1) := by decide +kernel
theorem dL_law_781 : decode cL_law 781 = .ok (.iadd, 1) := by decide +kernel
theorem dL_law_782 : decode cL_law 782 = .ok (.iaload, 1) := by decide +kernel
theorem dL_law_783 : decode cL_law 783 = .ok (.invokevirtual 88, 3) := by decide +kernel
theorem dL_law_786 : decode cL_law 786 = .ok (.aload_n 2, 1) := by decide +kernel
theorem dL_law_787 : decode cL_law 787 = .ok (.aload_n 0, 1) := by decide +kernel
theorem dL_law_788 : decode cL_law 788 = .ok (.iload_n 3, 1) := by decide +kernel
theorem dL_law_789 : decode cL_law 789 = .ok (.iconst 1, 1) := by decide +kernel
theorem dL_law_790 : decode cL_law 790 = .ok (.iadd, 1) := by decide +kernel
theorem dL_law_791 : decode cL_law 791 = .ok (.iaload, 1) := by decide +kernel
theorem dL_law_792 : decode cL_law 792 = .ok (.aload_n 0, 1) := by decide +kernel
theorem dL_law_793 : decode cL_law 793 = .ok (.iload_n 3, 1) := by decide +kernel
theorem dL_law_794 : decode cL_law 794 = .ok (.iconst 2, 1) := by decide +kernel
theorem dL_law_795 : decode cL_law 795 = .ok (.iadd, 1) := by decide +kernel
theorem dL_law_796 : decode cL_law 796 = .ok (.iaload, 1) := by decide +kernel
theorem dL_law_797 : decode cL_law 797 = .ok (.aload_n 0, 1) := by decide +kernel
theorem dL_law_798 : decode cL_law 798 = .ok (.iload_n 3, 1) := by decide +kernel
theorem dL_law_799 : decode cL_law 799 = .ok (.iconst 3, 1) := by decide +kernel
theorem dL_law_800 : decode cL_law 800 = .ok (.iadd, 1) := by decide +kernel
theorem dL_law_801 : decode cL_law 801 = .ok (.iaload, 1) := by decide +kernel
theorem dL_law_802 : decode cL_law 802 = .ok (.invokevirtual 91, 3) := by decide +kernel
theorem dL_law_805 : decode cL_law 805 = .ok (.if_icmp .eq 592, 3) := by decide +kernel
theorem dL_law_808 : decode cL_law 808 = .ok (.iconst 0, 1) := by decide +kernel
theorem dL_law_809 : decode cL_law 809 = .ok (.ireturn, 1) := by decide +kernel
theorem dL_law_810 : decode cL_law 810 = .ok (.aload_n 1, 1) := by decide +kernel
theorem dL_law_811 : decode cL_law 811 = .ok (.aload_n 0, 1) := by decide +kernel
theorem dL_law_812 : decode cL_law 812 = .ok (.iload_n 3, 1) := by decide +kernel
theorem dL_law_813 : decode cL_law 813 = .ok (.iconst 1, 1) := by decide +kernel
theorem dL_law_814 : decode cL_law 814 = .ok (.iadd, 1) := by decide +kernel
theorem dL_law_815 : decode cL_law 815 = .ok (.iaload, 1) := by decide +kernel
theorem dL_law_816 : decode cL_law 816 = .ok (.aload_n 0, 1) := by decide +kernel
theorem dL_law_817 : decode cL_law 817 = .ok (.iload_n 3, 1) := by decide +kernel
theorem dL_law_818 : decode cL_law 818 = .ok (.iconst 2, 1) := by decide +kernel
theorem dL_law_819 : decode cL_law 819 = .ok (.iadd, 1) := by decide +kernel
theorem dL_law_820 : decode cL_law 820 = .ok (.iaload, 1) := by decide +kernel
theorem dL_law_821 : decode cL_law 821 = .ok (.aload_n 0, 1) := by decide +kernel
theorem dL_law_822 : decode cL_law 822 = .ok (.iload_n 3, 1) := by decide +kernel
theorem dL_law_823 : decode cL_law 823 = .ok (.iconst 3, 1) := by decide +kernel
theorem dL_law_824 : decode cL_law 824 = .ok (.iadd, 1) := by decide +kernel
theorem dL_law_825 : decode cL_law 825 = .ok (.iaload, 1) := by decide +kernel
theorem dL_law_826 : decode cL_law 826 = .ok (.invokevirtual 92, 3) := by decide +kernel
theorem dL_law_829 : decode cL_law 829 = .ok (.aload_n 2, 1) := by decide +kernel
theorem dL_law_830 : decode cL_law 830 = .ok (.aload_n 0, 1) := by decide +kernel
theorem dL_law_831 : decode cL_law 831 = .ok (.iload_n 3, 1) := by decide +kernel
theorem dL_law_832 : decode cL_law 832 = .ok (.iconst 1, 1) := by decide +kernel
theorem dL_law_833 : decode cL_law 833 = .ok (.iadd, 1) := by decide +kernel
theorem dL_law_834 : decode cL_law 834 = .ok (.iaload, 1) := by decide +kernel
theorem dL_law_835 : decode cL_law 835 = .ok (.aload_n 0, 1) := by decide +kernel
theorem dL_law_836 : decode cL_law 836 = .ok (.iload_n 3, 1) := by decide +kernel
theorem dL_law_837 : decode cL_law 837 = .ok (.iconst 2, 1) := by decide +kernel
theorem dL_law_838 : decode cL_law 838 = .ok (.iadd, 1) := by decide +kernel
theorem dL_law_839 : decode cL_law 839 = .ok (.iaload, 1) := by decide +kernel
theorem dL_law_840 : decode cL_law 840 = .ok (.aload_n 0, 1) := by decide +kernel
theorem dL_law_841 : decode cL_law 841 = .ok (.iload_n 3, 1) := by decide +kernel
theorem dL_law_842 : decode cL_law 842 = .ok (.iconst 3, 1) := by decide +kernel
theorem dL_law_843 : decode cL_law 843 = .ok (.iadd, 1) := by decide +kernel
theorem dL_law_844 : decode cL_law 844 = .ok (.iaload, 1) := by decide +kernel
theorem dL_law_845 : decode cL_law 845 = .ok (.invokevirtual 95, 3) := by decide +kernel
theorem dL_law_848 : decode cL_law 848 = .ok (.if_icmp .eq 549, 3) := by decide +kernel
theorem dL_law_851 : decode cL_law 851 = .ok (.iconst 0, 1) := by decide +kernel
theorem dL_law_852 : decode cL_law 852 = .ok (.ireturn, 1) := by decide +kernel
theorem dL_law_853 : decode cL_law 853 = .ok (.aload_n 1, 1) := by decide +kernel
theorem dL_law_854 : decode cL_law 854 = .ok (.aload_n 0, 1) := by decide +kernel
theorem dL_law_855 : decode cL_law 855 = .ok (.iload_n 3, 1) := by decide +kernel
theorem dL_law_856 : decode cL_law 856 = .ok (.iconst 1, 1) := by decide +kernel
theorem dL_law_857 : decode cL_law 857 = .ok (.iadd, 1) := by decide +kernel
theorem dL_law_858 : decode cL_law 858 = .ok (.iaload, 1) := by decide +kernel
theorem dL_law_859 : decode cL_law 859 = .ok (.aload_n 0, 1) := by decide +kernel
theorem dL_law_860 : decode cL_law 860 = .ok (.iload_n 3, 1) := by decide +kernel
theorem dL_law_861 : decode cL_law 861 = .ok (.iconst 2, 1) := by decide +kernel
theorem dL_law_862 : decode cL_law 862 = .ok (.iadd, 1) := by decide +kernel
theorem dL_law_863 : decode cL_law 863 = .ok (.iaload, 1) := by decide +kernel
theorem dL_law_864 : decode cL_law 864 = .ok (.invokevirtual 96, 3) := by decide +kernel
theorem dL_law_867 : decode cL_law 867 = .ok (.aload_n 2, 1) := by decide +kernel
theorem dL_law_868 : decode cL_law 868 = .ok (.aload_n 0, 1) := by decide +kernel
theorem dL_law_869 : decode cL_law 869 = .ok (.iload_n 3, 1) := by decide +kernel
theorem dL_law_870 : decode cL_law 870 = .ok (.iconst 1, 1) := by decide +kernel
theorem dL_law_871 : decode cL_law 871 = .ok (.iadd, 1) := by decide +kernel
theorem dL_law_872 : decode cL_law 872 = .ok (.iaload, 1) := by decide +kernel
theorem dL_law_873 : decode cL_law 873 = .ok (.aload_n 0, 1) := by decide +kernel
theorem dL_law_874 : decode cL_law 874 = .ok (.iload_n 3, 1) := by decide +kernel
theorem dL_law_875 : decode cL_law 875 = .ok (.iconst 2, 1) := by decide +kernel
theorem dL_law_876 : decode cL_law 876 = .ok (.iadd, 1) := by decide +kernel
theorem dL_law_877 : decode cL_law 877 = .ok (.iaload, 1) := by decide +kernel
theorem dL_law_878 : decode cL_law 878 = .ok (.invokevirtual 99, 3) := by decide +kernel
theorem dL_law_881 : decode cL_law 881 = .ok (.if_icmp .eq 516, 3) := by decide +kernel
theorem dL_law_884 : decode cL_law 884 = .ok (.iconst 0, 1) := by decide +kernel
theorem dL_law_885 : decode cL_law 885 = .ok (.ireturn, 1) := by decide +kernel
theorem dL_law_886 : decode cL_law 886 = .ok (.aload_n 1, 1) := by decide +kernel
theorem dL_law_887 : decode cL_law 887 = .ok (.aload_n 0, 1) := by decide +kernel
theorem dL_law_888 : decode cL_law 888 = .ok (.iload_n 3, 1) := by decide +kernel
theorem dL_law_889 : decode cL_law 889 = .ok (.iconst 1, 1) := by decide +kernel
theorem dL_law_890 : decode cL_law 890 = .ok (.iadd, 1) := by decide +kernel
theorem dL_law_891 : decode cL_law 891 = .ok (.iaload, 1) := by decide +kernel
theorem dL_law_892 : decode cL_law 892 = .ok (.invokevirtual 100, 3) := by decide +kernel
theorem dL_law_895 : decode cL_law 895 = .ok (.aload_n 2, 1) := by decide +kernel
theorem dL_law_896 : decode cL_law 896 = .ok (.aload_n 0, 1) := by decide +kernel
theorem dL_law_897 : decode cL_law 897 = .ok (.iload_n 3, 1) := by decide +kernel
theorem dL_law_898 : decode cL_law 898 = .ok (.iconst 1, 1) := by decide +kernel
theorem dL_law_899 : decode cL_law 899 = .ok (.iadd, 1) := by decide +kernel
theorem dL_law_900 : decode cL_law 900 = .ok (.iaload, 1) := by decide +kernel
theorem dL_law_901 : decode cL_law 901 = .ok (.invokevirtual 103, 3) := by decide +kernel
theorem dL_law_904 : decode cL_law 904 = .ok (.if_icmp .eq 493, 3) := by decide +kernel
theorem dL_law_907 : decode cL_law 907 = .ok (.iconst 0, 1) := by decide +kernel
theorem dL_law_908 : decode cL_law 908 = .ok (.ireturn, 1) := by decide +kernel
theorem dL_law_909 : decode cL_law 909 = .ok (.aload_n 1, 1) := by decide +kernel
theorem dL_law_910 : decode cL_law 910 = .ok (.aload_n 0, 1) := by decide +kernel
theorem dL_law_911 : decode cL_law 911 = .ok (.iload_n 3, 1) := by decide +kernel
theorem dL_law_912 : decode cL_law 912 = .ok (.iconst 1, 1) := by decide +kernel
theorem dL_law_913 : decode cL_law 913 = .ok (.iadd, 1) := by decide +kernel
theorem dL_law_914 : decode cL_law 914 = .ok (.iaload, 1) := by decide +kernel
theorem dL_law_915 : decode cL_law 915 = .ok (.aload_n 0, 1) := by decide +kernel
theorem dL_law_916 : decode cL_law 916 = .ok (.iload_n 3, 1) := by decide +kernel
theorem dL_law_917 : decode cL_law 917 = .ok (.iconst 2, 1) := by decide +kernel
theorem dL_law_918 : decode cL_law 918 = .ok (.iadd, 1) := by decide +kernel
theorem dL_law_919 : decode cL_law 919 = .ok (.iaload, 1) := by decide +kernel
theorem dL_law_920 : decode cL_law 920 = .ok (.aload_n 0, 1) := by decide +kernel
theorem dL_law_921 : decode cL_law 921 = .ok (.iload_n 3, 1) := by decide +kernel
theorem dL_law_922 : decode cL_law 922 = .ok (.iconst 3, 1) := by decide +kernel
theorem dL_law_923 : decode cL_law 923 = .ok (.iadd, 1) := by decide +kernel
theorem dL_law_924 : decode cL_law 924 = .ok (.iaload, 1) := by decide +kernel
theorem dL_law_925 : decode cL_law 925 = .ok (.invokevirtual 104, 3) := by decide +kernel
theorem dL_law_928 : decode cL_law 928 = .ok (.aload_n 2, 1) := by decide +kernel
theorem dL_law_929 : decode cL_law 929 = .ok (.aload_n 0, 1) := by decide +kernel
theorem dL_law_930 : decode cL_law 930 = .ok (.iload_n 3, 1) := by decide +kernel
theorem dL_law_931 : decode cL_law 931 = .ok (.iconst 1, 1) := by decide +kernel
theorem dL_law_932 : decode cL_law 932 = .ok (.iadd, 1) := by decide +kernel
theorem dL_law_933 : decode cL_law 933 = .ok (.iaload, 1) := by decide +kernel
theorem dL_law_934 : decode cL_law 934 = .ok (.aload_n 0, 1) := by decide +kernel
theorem dL_law_935 : decode cL_law 935 = .ok (.iload_n 3, 1) := by decide +kernel
theorem dL_law_936 : decode cL_law 936 = .ok (.iconst 2, 1) := by decide +kernel
theorem dL_law_937 : decode cL_law 937 = .ok (.iadd, 1) := by decide +kernel
theorem dL_law_938 : decode cL_law 938 = .ok (.iaload, 1) := by decide +kernel
theorem dL_law_939 : decode cL_law 939 = .ok (.aload_n 0, 1) := by decide +kernel
theorem dL_law_940 : decode cL_law 940 = .ok (.iload_n 3, 1) := by decide +kernel
theorem dL_law_941 : decode cL_law 941 = .ok (.iconst 3, 1) := by decide +kernel
theorem dL_law_942 : decode cL_law 942 = .ok (.iadd, 1) := by decide +kernel
theorem dL_law_943 : decode cL_law 943 = .ok (.iaload, 1) := by decide +kernel
theorem dL_law_944 : decode cL_law 944 = .ok (.invokevirtual 107, 3) := by decide +kernel
theorem dL_law_947 : decode cL_law 947 = .ok (.if_icmp .eq 450, 3) := by decide +kernel
theorem dL_law_950 : decode cL_law 950 = .ok (.iconst 0, 1) := by decide +kernel
theorem dL_law_951 : decode cL_law 951 = .ok (.ireturn, 1) := by decide +kernel
theorem dL_law_952 : decode cL_law 952 = .ok (.aload_n 1, 1) := by decide +kernel
theorem dL_law_953 : decode cL_law 953 = .ok (.aload_n 0, 1) := by decide +kernel
theorem dL_law_954 : decode cL_law 954 = .ok (.iload_n 3, 1) := by decide +kernel
theorem dL_law_955 : decode cL_law 955 = .ok (.iconst 1, 1) := by decide +kernel
theorem dL_law_956 : decode cL_law 956 = .ok (.iadd, 1) := by decide +kernel
theorem dL_law_957 : decode cL_law 957 = .ok (.iaload, 1) := by decide +kernel
theorem dL_law_958 : decode cL_law 958 = .ok (.aload_n 0, 1) := by decide +kernel
theorem dL_law_959 : decode cL_law 959 = .ok (.iload_n 3, 1) := by decide +kernel
theorem dL_law_960 : decode cL_law 960 = .ok (.iconst 2, 1) := by decide +kernel
theorem dL_law_961 : decode cL_law 961 = .ok (.iadd, 1) := by decide +kernel
theorem dL_law_962 : decode cL_law 962 = .ok (.iaload, 1) := by decide +kernel
theorem dL_law_963 : decode cL_law 963 = .ok (.aload_n 0, 1) := by decide +kernel
theorem dL_law_964 : decode cL_law 964 = .ok (.iload_n 3, 1) := by decide +kernel
theorem dL_law_965 : decode cL_law 965 = .ok (.iconst 3, 1) := by decide +kernel
theorem dL_law_966 : decode cL_law 966 = .ok (.iadd, 1) := by decide +kernel
theorem dL_law_967 : decode cL_law 967 = .ok (.iaload, 1) := by decide +kernel
theorem dL_law_968 : decode cL_law 968 = .ok (.aload_n 0, 1) := by decide +kernel
theorem dL_law_969 : decode cL_law 969 = .ok (.iload_n 3, 1) := by decide +kernel
theorem dL_law_970 : decode cL_law 970 = .ok (.iconst 4, 1) := by decide +kernel
theorem dL_law_971 : decode cL_law 971 = .ok (.iadd, 1) := by decide +kernel
theorem dL_law_972 : decode cL_law 972 = .ok (.iaload, 1) := by decide +kernel
theorem dL_law_973 : decode cL_law 973 = .ok (.invokevirtual 108, 3) := by decide +kernel
theorem dL_law_976 : decode cL_law 976 = .ok (.aload_n 2, 1) := by decide +kernel
theorem dL_law_977 : decode cL_law 977 = .ok (.aload_n 0, 1) := by decide +kernel
theorem dL_law_978 : decode cL_law 978 = .ok (.iload_n 3, 1) := by decide +kernel
theorem dL_law_979 : decode cL_law 979 = .ok (.iconst 1, 1) := by decide +kernel
theorem dL_law_980 : decode cL_law 980 = .ok (.iadd, 1) := by decide +kernel
theorem dL_law_981 : decode cL_law 981 = .ok (.iaload, 1) := by decide +kernel
theorem dL_law_982 : decode cL_law 982 = .ok (.aload_n 0, 1) := by decide +kernel
theorem dL_law_983 : decode cL_law 983 = .ok (.iload_n 3, 1) := by decide +kernel
theorem dL_law_984 : decode cL_law 984 = .ok (.iconst 2, 1) := by decide +kernel
theorem dL_law_985 : decode cL_law 985 = .ok (.iadd, 1) := by decide +kernel
theorem dL_law_986 : decode cL_law 986 = .ok (.iaload, 1) := by decide +kernel
theorem dL_law_987 : decode cL_law 987 = .ok (.aload_n 0, 1) := by decide +kernel
theorem dL_law_988 : decode cL_law 988 = .ok (.iload_n 3, 1) := by decide +kernel
theorem dL_law_989 : decode cL_law 989 = .ok (.iconst 3, 1) := by decide +kernel
theorem dL_law_990 : decode cL_law 990 = .ok (.iadd, 1) := by decide +kernel
theorem dL_law_991 : decode cL_law 991 = .ok (.iaload, 1) := by decide +kernel
theorem dL_law_992 : decode cL_law 992 = .ok (.aload_n 0, 1) := by decide +kernel
theorem dL_law_993 : decode cL_law 993 = .ok (.iload_n 3, 1) := by decide +kernel
theorem dL_law_994 : decode cL_law 994 = .ok (.iconst 4, 1) := by decide +kernel
theorem dL_law_995 : decode cL_law 995 = .ok (.iadd, 1) := by decide +kernel
theorem dL_law_996 : decode cL_law 996 = .ok (.iaload, 1) := by decide +kernel
theorem dL_law_997 : decode cL_law 997 = .ok (.invokevirtual 111, 3) := by decide +kernel
theorem dL_law_1000 : decode cL_law 1000 = .ok (.if_icmp .eq 397, 3) := by decide +kernel
theorem dL_law_1003 : decode cL_law 1003 = .ok (.iconst 0, 1) := by decide +kernel
theorem dL_law_1004 : decode cL_law 1004 = .ok (.ireturn, 1) := by decide +kernel
theorem dL_law_1005 : decode cL_law 1005 = .ok (.aload_n 1, 1) := by decide +kernel
theorem dL_law_1006 : decode cL_law 1006 = .ok (.aload_n 0, 1) := by decide +kernel
theorem dL_law_1007 : decode cL_law 1007 = .ok (.iload_n 3, 1) := by decide +kernel
theorem dL_law_1008 : decode cL_law 1008 = .ok (.iconst 1, 1) := by decide +kernel
theorem dL_law_1009 : decode cL_law 1009 = .ok (.iadd, 1) := by decide +kernel
theorem dL_law_1010 : decode cL_law 1010 = .ok (.iaload, 1) := by decide +kernel
theorem dL_law_1011 : decode cL_law 1011 = .ok (.invokevirtual 112, 3) := by decide +kernel
theorem dL_law_1014 : decode cL_law 1014 = .ok (.aload_n 2, 1) := by decide +kernel
theorem dL_law_1015 : decode cL_law 1015 = .ok (.aload_n 0, 1) := by decide +kernel
theorem dL_law_1016 : decode cL_law 1016 = .ok (.iload_n 3, 1) := by decide +kernel
theorem dL_law_1017 : decode cL_law 1017 = .ok (.iconst 1, 1) := by decide +kernel
theorem dL_law_1018 : decode cL_law 1018 = .ok (.iadd, 1) := by decide +kernel
theorem dL_law_1019 : decode cL_law 1019 = .ok (.iaload, 1) := by decide +kernel
theorem dL_law_1020 : decode cL_law 1020 = .ok (.invokevirtual 115, 3) := by decide +kernel
theorem dL_law_1023 : decode cL_law 1023 = .ok (.if_icmp .eq 374, 3) := by decide +kernel
theorem dL_law_1026 : decode cL_law 1026 = .ok (.iconst 0, 1) := by decide +kernel
theorem dL_law_1027 : decode cL_law 1027 = .ok (.ireturn, 1) := by decide +kernel
theorem dL_law_1028 : decode cL_law 1028 = .ok (.aload_n 1, 1) := by decide +kernel
theorem dL_law_1029 : decode cL_law 1029 = .ok (.aload_n 0, 1) := by decide +kernel
theorem dL_law_1030 : decode cL_law 1030 = .ok (.iload_n 3, 1) := by decide +kernel
theorem dL_law_1031 : decode cL_law 1031 = .ok (.iconst 1, 1) := by decide +kernel
theorem dL_law_1032 : decode cL_law 1032 = .ok (.iadd, 1) := by decide +kernel
theorem dL_law_1033 : decode cL_law 1033 = .ok (.iaload, 1) := by decide +kernel
theorem dL_law_1034 : decode cL_law 1034 = .ok (.aload_n 0, 1) := by decide +kernel
theorem dL_law_1035 : decode cL_law 1035 = .ok (.iload_n 3, 1) := by decide +kernel
theorem dL_law_1036 : decode cL_law 1036 = .ok (.iconst 2, 1) := by decide +kernel
theorem dL_law_1037 : decode cL_law 1037 = .ok (.iadd, 1) := by decide +kernel
theorem dL_law_1038 : decode cL_law 1038 = .ok (.iaload, 1) := by decide +kernel
theorem dL_law_1039 : decode cL_law 1039 = .ok (.aload_n 0, 1) := by decide +kernel
theorem dL_law_1040 : decode cL_law 1040 = .ok (.iload_n 3, 1) := by decide +kernel
theorem dL_law_1041 : decode cL_law 1041 = .ok (.iconst 3, 1) := by decide +kernel
theorem dL_law_1042 : decode cL_law 1042 = .ok (.iadd, 1) := by decide +kernel
theorem dL_law_1043 : decode cL_law 1043 = .ok (.iaload, 1) := by decide +kernel
theorem dL_law_1044 : decode cL_law 1044 = .ok (.invokevirtual 116, 3) := by decide +kernel
theorem dL_law_1047 : decode cL_law 1047 = .ok (.aload_n 2, 1) := by decide +kernel
theorem dL_law_1048 : decode cL_law 1048 = .ok (.aload_n 0, 1) := by decide +kernel
theorem dL_law_1049 : decode cL_law 1049 = .ok (.iload_n 3, 1) := by decide +kernel
theorem dL_law_1050 : decode cL_law 1050 = .ok (.iconst 1, 1) := by decide +kernel
theorem dL_law_1051 : decode cL_law 1051 = .ok (.iadd, 1) := by decide +kernel
theorem dL_law_1052 : decode cL_law 1052 = .ok (.iaload, 1) := by decide +kernel
theorem dL_law_1053 : decode cL_law 1053 = .ok (.aload_n 0, 1) := by decide +kernel
theorem dL_law_1054 : decode cL_law 1054 = .ok (.iload_n 3, 1) := by decide +kernel
theorem dL_law_1055 : decode cL_law 1055 = .ok (.iconst 2, 1) := by decide +kernel
theorem dL_law_1056 : decode cL_law 1056 = .ok (.iadd, 1) := by decide +kernel
theorem dL_law_1057 : decode cL_law 1057 = .ok (.iaload, 1) := by decide +kernel
theorem dL_law_1058 : decode cL_law 1058 = .ok (.aload_n 0, 1) := by decide +kernel
theorem dL_law_1059 : decode cL_law 1059 = .ok (.iload_n 3, 1) := by decide +kernel
theorem dL_law_1060 : decode cL_law 1060 = .ok (.iconst 3, 1) := by decide +kernel
theorem dL_law_1061 : decode cL_law 1061 = .ok (.iadd, 1) := by decide +kernel
theorem dL_law_1062 : decode cL_law 1062 = .ok (.iaload, 1) := by decide +kernel
theorem dL_law_1063 : decode cL_law 1063 = .ok (.invokevirtual 119, 3) := by decide +kernel
theorem dL_law_1066 : decode cL_law 1066 = .ok (.if_icmp .eq 331, 3) := by decide +kernel
theorem dL_law_1069 : decode cL_law 1069 = .ok (.iconst 0, 1) := by decide +kernel
theorem dL_law_1070 : decode cL_law 1070 = .ok (.ireturn, 1) := by decide +kernel
theorem dL_law_1071 : decode cL_law 1071 = .ok (.aload_n 1, 1) := by decide +kernel
theorem dL_law_1072 : decode cL_law 1072 = .ok (.aload_n 0, 1) := by decide +kernel
theorem dL_law_1073 : decode cL_law 1073 = .ok (.iload_n 3, 1) := by decide +kernel
theorem dL_law_1074 : decode cL_law 1074 = .ok (.iconst 1, 1) := by decide +kernel
theorem dL_law_1075 : decode cL_law 1075 = .ok (.iadd, 1) := by decide +kernel
theorem dL_law_1076 : decode cL_law 1076 = .ok (.iaload, 1) := by decide +kernel
theorem dL_law_1077 : decode cL_law 1077 = .ok (.invokevirtual 120, 3) := by decide +kernel
theorem dL_law_1080 : decode cL_law 1080 = .ok (.aload_n 2, 1) := by decide +kernel
theorem dL_law_1081 : decode cL_law 1081 = .ok (.aload_n 0, 1) := by decide +kernel
theorem dL_law_1082 : decode cL_law 1082 = .ok (.iload_n 3, 1) := by decide +kernel
theorem dL_law_1083 : decode cL_law 1083 = .ok (.iconst 1, 1) := by decide +kernel
theorem dL_law_1084 : decode cL_law 1084 = .ok (.iadd, 1) := by decide +kernel
theorem dL_law_1085 : decode cL_law 1085 = .ok (.iaload, 1) := by decide +kernel
theorem dL_law_1086 : decode cL_law 1086 = .ok (.invokevirtual 123, 3) := by decide +kernel
theorem dL_law_1089 : decode cL_law 1089 = .ok (.if_icmp .eq 308, 3) := by decide +kernel
theorem dL_law_1092 : decode cL_law 1092 = .ok (.iconst 0, 1) := by decide +kernel
theorem dL_law_1093 : decode cL_law 1093 = .ok (.ireturn, 1) := by decide +kernel
theorem dL_law_1094 : decode cL_law 1094 = .ok (.aload_n 1, 1) := by decide +kernel
theorem dL_law_1095 : decode cL_law 1095 = .ok (.aload_n 0, 1) := by decide +kernel
theorem dL_law_1096 : decode cL_law 1096 = .ok (.iload_n 3, 1) := by decide +kernel
theorem dL_law_1097 : decode cL_law 1097 = .ok (.iconst 1, 1) := by decide +kernel
theorem dL_law_1098 : decode cL_law 1098 = .ok (.iadd, 1) := by decide +kernel
theorem dL_law_1099 : decode cL_law 1099 = .ok (.iaload, 1) := by decide +kernel
theorem dL_law_1100 : decode cL_law 1100 = .ok (.aload_n 0, 1) := by decide +kernel
theorem dL_law_1101 : decode cL_law 1101 = .ok (.iload_n 3, 1) := by decide +kernel
theorem dL_law_1102 : decode cL_law 1102 = .ok (.iconst 2, 1) := by decide +kernel
theorem dL_law_1103 : decode cL_law 1103 = .ok (.iadd, 1) := by decide +kernel
theorem dL_law_1104 : decode cL_law 1104 = .ok (.iaload, 1) := by decide +kernel
theorem dL_law_1105 : decode cL_law 1105 = .ok (.aload_n 0, 1) := by decide +kernel
theorem dL_law_1106 : decode cL_law 1106 = .ok (.iload_n 3, 1) := by decide +kernel
theorem dL_law_1107 : decode cL_law 1107 = .ok (.iconst 3, 1) := by decide +kernel
theorem dL_law_1108 : decode cL_law 1108 = .ok (.iadd, 1) := by decide +kernel
theorem dL_law_1109 : decode cL_law 1109 = .ok (.iaload, 1) := by decide +kernel
theorem dL_law_1110 : decode cL_law 1110 = .ok (.invokevirtual 124, 3) := by decide +kernel
theorem dL_law_1113 : decode cL_law 1113 = .ok (.aload_n 2, 1) := by decide +kernel
theorem dL_law_1114 : decode cL_law 1114 = .ok (.aload_n 0, 1) := by decide +kernel
theorem dL_law_1115 : decode cL_law 1115 = .ok (.iload_n 3, 1) := by decide +kernel
theorem dL_law_1116 : decode cL_law 1116 = .ok (.iconst 1, 1) := by decide +kernel
theorem dL_law_1117 : decode cL_law 1117 = .ok (.iadd, 1) := by decide +kernel
theorem dL_law_1118 : decode cL_law 1118 = .ok (.iaload, 1) := by decide +kernel
theorem dL_law_1119 : decode cL_law 1119 = .ok (.aload_n 0, 1) := by decide +kernel
theorem dL_law_1120 : decode cL_law 1120 = .ok (.iload_n 3, 1) := by decide +kernel
theorem dL_law_1121 : decode cL_law 1121 = .ok (.iconst 2, 1) := by decide +kernel
theorem dL_law_1122 : decode cL_law 1122 = .ok (.iadd, 1) := by decide +kernel
theorem dL_law_1123 : decode cL_law 1123 = .ok (.iaload, 1) := by decide +kernel
theorem dL_law_1124 : decode cL_law 1124 = .ok (.aload_n 0, 1) := by decide +kernel
theorem dL_law_1125 : decode cL_law 1125 = .ok (.iload_n 3, 1) := by decide +kernel
theorem dL_law_1126 : decode cL_law 1126 = .ok (.iconst 3, 1) := by decide +kernel
theorem dL_law_1127 : decode cL_law 1127 = .ok (.iadd, 1) := by decide +kernel
theorem dL_law_1128 : decode cL_law 1128 = .ok (.iaload, 1) := by decide +kernel
theorem dL_law_1129 : decode cL_law 1129 = .ok (.invokevirtual 127, 3) := by decide +kernel
theorem dL_law_1132 : decode cL_law 1132 = .ok (.if_icmp .eq 265, 3) := by decide +kernel
theorem dL_law_1135 : decode cL_law 1135 = .ok (.iconst 0, 1) := by decide +kernel
theorem dL_law_1136 : decode cL_law 1136 = .ok (.ireturn, 1) := by decide +kernel
theorem dL_law_1137 : decode cL_law 1137 = .ok (.aload_n 1, 1) := by decide +kernel
theorem dL_law_1138 : decode cL_law 1138 = .ok (.aload_n 0, 1) := by decide +kernel
theorem dL_law_1139 : decode cL_law 1139 = .ok (.iload_n 3, 1) := by decide +kernel
theorem dL_law_1140 : decode cL_law 1140 = .ok (.iconst 1, 1) := by decide +kernel
theorem dL_law_1141 : decode cL_law 1141 = .ok (.iadd, 1) := by decide +kernel
theorem dL_law_1142 : decode cL_law 1142 = .ok (.iaload, 1) := by decide +kernel
theorem dL_law_1143 : decode cL_law 1143 = .ok (.aload_n 0, 1) := by decide +kernel
theorem dL_law_1144 : decode cL_law 1144 = .ok (.iload_n 3, 1) := by decide +kernel
theorem dL_law_1145 : decode cL_law 1145 = .ok (.iconst 2, 1) := by decide +kernel
theorem dL_law_1146 : decode cL_law 1146 = .ok (.iadd, 1) := by decide +kernel
theorem dL_law_1147 : decode cL_law 1147 = .ok (.iaload, 1) := by decide +kernel
theorem dL_law_1148 : decode cL_law 1148 = .ok (.aload_n 0, 1) := by decide +kernel
theorem dL_law_1149 : decode cL_law 1149 = .ok (.iload_n 3, 1) := by decide +kernel
theorem dL_law_1150 : decode cL_law 1150 = .ok (.iconst 3, 1) := by decide +kernel
theorem dL_law_1151 : decode cL_law 1151 = .ok (.iadd, 1) := by decide +kernel
theorem dL_law_1152 : decode cL_law 1152 = .ok (.iaload, 1) := by decide +kernel
theorem dL_law_1153 : decode cL_law 1153 = .ok (.invokevirtual 128, 3) := by decide +kernel
theorem dL_law_1156 : decode cL_law 1156 = .ok (.aload_n 2, 1) := by decide +kernel
theorem dL_law_1157 : decode cL_law 1157 = .ok (.aload_n 0, 1) := by decide +kernel
theorem dL_law_1158 : decode cL_law 1158 = .ok (.iload_n 3, 1) := by decide +kernel
theorem dL_law_1159 : decode cL_law 1159 = .ok (.iconst 1, 1) := by decide +kernel
theorem dL_law_1160 : decode cL_law 1160 = .ok (.iadd, 1) := by decide +kernel
theorem dL_law_1161 : decode cL_law 1161 = .ok (.iaload, 1) := by decide +kernel
theorem dL_law_1162 : decode cL_law 1162 = .ok (.aload_n 0, 1) := by decide +kernel
theorem dL_law_1163 : decode cL_law 1163 = .ok (.iload_n 3, 1) := by decide +kernel
theorem dL_law_1164 : decode cL_law 1164 = .ok (.iconst 2, 1) := by decide +kernel
theorem dL_law_1165 : decode cL_law 1165 = .ok (.iadd, 1) := by decide +kernel
theorem dL_law_1166 : decode cL_law 1166 = .ok (.iaload, 1) := by decide +kernel
theorem dL_law_1167 : decode cL_law 1167 = .ok (.aload_n 0, 1) := by decide +kernel
theorem dL_law_1168 : decode cL_law 1168 = .ok (.iload_n 3, 1) := by decide +kernel
theorem dL_law_1169 : decode cL_law 1169 = .ok (.iconst 3, 1) := by decide +kernel
theorem dL_law_1170 : decode cL_law 1170 = .ok (.iadd, 1) := by decide +kernel
theorem dL_law_1171 : decode cL_law 1171 = .ok (.iaload, 1) := by decide +kernel
theorem dL_law_1172 : decode cL_law 1172 = .ok (.invokevirtual 131, 3) := by decide +kernel
theorem dL_law_1175 : decode cL_law 1175 = .ok (.if_icmp .eq 222, 3) := by decide +kernel
theorem dL_law_1178 : decode cL_law 1178 = .ok (.iconst 0, 1) := by decide +kernel
theorem dL_law_1179 : decode cL_law 1179 = .ok (.ireturn, 1) := by decide +kernel
theorem dL_law_1180 : decode cL_law 1180 = .ok (.aload_n 1, 1) := by decide +kernel
theorem dL_law_1181 : decode cL_law 1181 = .ok (.aload_n 0, 1) := by decide +kernel
theorem dL_law_1182 : decode cL_law 1182 = .ok (.iload_n 3, 1) := by decide +kernel
theorem dL_law_1183 : decode cL_law 1183 = .ok (.iconst 1, 1) := by decide +kernel
theorem dL_law_1184 : decode cL_law 1184 = .ok (.iadd, 1) := by decide +kernel
theorem dL_law_1185 : decode cL_law 1185 = .ok (.iaload, 1) := by decide +kernel
theorem dL_law_1186 : decode cL_law 1186 = .ok (.aload_n 0, 1) := by decide +kernel
theorem dL_law_1187 : decode cL_law 1187 = .ok (.iload_n 3, 1) := by decide +kernel
theorem dL_law_1188 : decode cL_law 1188 = .ok (.iconst 2, 1) := by decide +kernel
theorem dL_law_1189 : decode cL_law 1189 = .ok (.iadd, 1) := by decide +kernel
theorem dL_law_1190 : decode cL_law 1190 = .ok (.iaload, 1) := by decide +kernel
theorem dL_law_1191 : decode cL_law 1191 = .ok (.aload_n 0, 1) := by decide +kernel
theorem dL_law_1192 : decode cL_law 1192 = .ok (.iload_n 3, 1) := by decide +kernel
theorem dL_law_1193 : decode cL_law 1193 = .ok (.iconst 3, 1) := by decide +kernel
theorem dL_law_1194 : decode cL_law 1194 = .ok (.iadd, 1) := by decide +kernel
theorem dL_law_1195 : decode cL_law 1195 = .ok (.iaload, 1) := by decide +kernel
theorem dL_law_1196 : decode cL_law 1196 = .ok (.aload_n 0, 1) := by decide +kernel
theorem dL_law_1197 : decode cL_law 1197 = .ok (.iload_n 3, 1) := by decide +kernel
theorem dL_law_1198 : decode cL_law 1198 = .ok (.iconst 4, 1) := by decide +kernel
theorem dL_law_1199 : decode cL_law 1199 = .ok (.iadd, 1) := by decide +kernel
theorem dL_law_1200 : decode cL_law 1200 = .ok (.iaload, 1) := by decide +kernel
theorem dL_law_1201 : decode cL_law 1201 = .ok (.aload_n 0, 1) := by decide +kernel
theorem dL_law_1202 : decode cL_law 1202 = .ok (.iload_n 3, 1) := by decide +kernel
theorem dL_law_1203 : decode cL_law 1203 = .ok (.iconst 5, 1) := by decide +kernel
theorem dL_law_1204 : decode cL_law 1204 = .ok (.iadd, 1) := by decide +kernel
theorem dL_law_1205 : decode cL_law 1205 = .ok (.iaload, 1) := by decide +kernel
theorem dL_law_1206 : decode cL_law 1206 = .ok (.invokevirtual 132, 3) := by decide +kernel
theorem dL_law_1209 : decode cL_law 1209 = .ok (.aload_n 2, 1) := by decide +kernel
theorem dL_law_1210 : decode cL_law 1210 = .ok (.aload_n 0, 1) := by decide +kernel
theorem dL_law_1211 : decode cL_law 1211 = .ok (.iload_n 3, 1) := by decide +kernel
theorem dL_law_1212 : decode cL_law 1212 = .ok (.iconst 1, 1) := by decide +kernel
theorem dL_law_1213 : decode cL_law 1213 = .ok (.iadd, 1) := by decide +kernel
theorem dL_law_1214 : decode cL_law 1214 = .ok (.iaload, 1) := by decide +kernel
theorem dL_law_1215 : decode cL_law 1215 = .ok (.aload_n 0, 1) := by decide +kernel
theorem dL_law_1216 : decode cL_law 1216 = .ok (.iload_n 3, 1) := by decide +kernel
theorem dL_law_1217 : decode cL_law 1217 = .ok (.iconst 2, 1) := by decide +kernel
theorem dL_law_1218 : decode cL_law 1218 = .ok (.iadd, 1) := by decide +kernel
theorem dL_law_1219 : decode cL_law 1219 = .ok (.iaload, 1) := by decide +kernel
theorem dL_law_1220 : decode cL_law 1220 = .ok (.aload_n 0, 1) := by decide +kernel
theorem dL_law_1221 : decode cL_law 1221 = .ok (.iload_n 3, 1) := by decide +kernel
theorem dL_law_1222 : decode cL_law 1222 = .ok (.iconst 3, 1) := by decide +kernel
theorem dL_law_1223 : decode cL_law 1223 = .ok (.iadd, 1) := by decide +kernel
theorem dL_law_1224 : decode cL_law 1224 = .ok (.iaload, 1) := by decide +kernel
theorem dL_law_1225 : decode cL_law 1225 = .ok (.aload_n 0, 1) := by decide +kernel
theorem dL_law_1226 : decode cL_law 1226 = .ok (.iload_n 3, 1) := by decide +kernel
theorem dL_law_1227 : decode cL_law 1227 = .ok (.iconst 4, 1) := by decide +kernel
theorem dL_law_1228 : decode cL_law 1228 = .ok (.iadd, 1) := by decide +kernel
theorem dL_law_1229 : decode cL_law 1229 = .ok (.iaload, 1) := by decide +kernel
theorem dL_law_1230 : decode cL_law 1230 = .ok (.aload_n 0, 1) := by decide +kernel
theorem dL_law_1231 : decode cL_law 1231 = .ok (.iload_n 3, 1) := by decide +kernel
theorem dL_law_1232 : decode cL_law 1232 = .ok (.iconst 5, 1) := by decide +kernel
theorem dL_law_1233 : decode cL_law 1233 = .ok (.iadd, 1) := by decide +kernel
theorem dL_law_1234 : decode cL_law 1234 = .ok (.iaload, 1) := by decide +kernel
theorem dL_law_1235 : decode cL_law 1235 = .ok (.invokevirtual 136, 3) := by decide +kernel
theorem dL_law_1238 : decode cL_law 1238 = .ok (.if_icmp .eq 159, 3) := by decide +kernel
theorem dL_law_1241 : decode cL_law 1241 = .ok (.iconst 0, 1) := by decide +kernel
theorem dL_law_1242 : decode cL_law 1242 = .ok (.ireturn, 1) := by decide +kernel
theorem dL_law_1243 : decode cL_law 1243 = .ok (.aload_n 1, 1) := by decide +kernel
theorem dL_law_1244 : decode cL_law 1244 = .ok (.aload_n 0, 1) := by decide +kernel
theorem dL_law_1245 : decode cL_law 1245 = .ok (.iload_n 3, 1) := by decide +kernel
theorem dL_law_1246 : decode cL_law 1246 = .ok (.iconst 1, 1) := by decide +kernel
theorem dL_law_1247 : decode cL_law 1247 = .ok (.iadd, 1) := by decide +kernel
theorem dL_law_1248 : decode cL_law 1248 = .ok (.iaload, 1) := by decide +kernel
theorem dL_law_1249 : decode cL_law 1249 = .ok (.invokevirtual 137, 3) := by decide +kernel
theorem dL_law_1252 : decode cL_law 1252 = .ok (.aload_n 2, 1) := by decide +kernel
theorem dL_law_1253 : decode cL_law 1253 = .ok (.aload_n 0, 1) := by decide +kernel
theorem dL_law_1254 : decode cL_law 1254 = .ok (.iload_n 3, 1) := by decide +kernel
theorem dL_law_1255 : decode cL_law 1255 = .ok (.iconst 1, 1) := by decide +kernel
theorem dL_law_1256 : decode cL_law 1256 = .ok (.iadd, 1) := by decide +kernel
theorem dL_law_1257 : decode cL_law 1257 = .ok (.iaload, 1) := by decide +kernel
theorem dL_law_1258 : decode cL_law 1258 = .ok (.invokevirtual 140, 3) := by decide +kernel
theorem dL_law_1261 : decode cL_law 1261 = .ok (.if_icmp .eq 136, 3) := by decide +kernel
theorem dL_law_1264 : decode cL_law 1264 = .ok (.iconst 0, 1) := by decide +kernel
theorem dL_law_1265 : decode cL_law 1265 = .ok (.ireturn, 1) := by decide +kernel
theorem dL_law_1266 : decode cL_law 1266 = .ok (.aload_n 1, 1) := by decide +kernel
theorem dL_law_1267 : decode cL_law 1267 = .ok (.aload_n 0, 1) := by decide +kernel
theorem dL_law_1268 : decode cL_law 1268 = .ok (.iload_n 3, 1) := by decide +kernel
theorem dL_law_1269 : decode cL_law 1269 = .ok (.iconst 1, 1) := by decide +kernel
theorem dL_law_1270 : decode cL_law 1270 = .ok (.iadd, 1) := by decide +kernel
theorem dL_law_1271 : decode cL_law 1271 = .ok (.iaload, 1) := by decide +kernel
theorem dL_law_1272 : decode cL_law 1272 = .ok (.invokevirtual 141, 3) := by decide +kernel
theorem dL_law_1275 : decode cL_law 1275 = .ok (.aload_n 2, 1) := by decide +kernel
theorem dL_law_1276 : decode cL_law 1276 = .ok (.aload_n 0, 1) := by decide +kernel
theorem dL_law_1277 : decode cL_law 1277 = .ok (.iload_n 3, 1) := by decide +kernel
theorem dL_law_1278 : decode cL_law 1278 = .ok (.iconst 1, 1) := by decide +kernel
theorem dL_law_1279 : decode cL_law 1279 = .ok (.iadd, 1) := by decide +kernel
theorem dL_law_1280 : decode cL_law 1280 = .ok (.iaload, 1) := by decide +kernel
theorem dL_law_1281 : decode cL_law 1281 = .ok (.invokevirtual 144, 3) := by decide +kernel
theorem dL_law_1284 : decode cL_law 1284 = .ok (.if_icmp .eq 113, 3) := by decide +kernel
theorem dL_law_1287 : decode cL_law 1287 = .ok (.iconst 0, 1) := by decide +kernel
theorem dL_law_1288 : decode cL_law 1288 = .ok (.ireturn, 1) := by decide +kernel
theorem dL_law_1289 : decode cL_law 1289 = .ok (.aload_n 1, 1) := by decide +kernel
theorem dL_law_1290 : decode cL_law 1290 = .ok (.invokevirtual 145, 3) := by decide +kernel
theorem dL_law_1293 : decode cL_law 1293 = .ok (.aload_n 2, 1) := by decide +kernel
theorem dL_law_1294 : decode cL_law 1294 = .ok (.invokevirtual 149, 3) := by decide +kernel
theorem dL_law_1297 : decode cL_law 1297 = .ok (.if_icmp .eq 100, 3) := by decide +kernel
theorem dL_law_1300 : decode cL_law 1300 = .ok (.iconst 0, 1) := by decide +kernel
theorem dL_law_1301 : decode cL_law 1301 = .ok (.ireturn, 1) := by decide +kernel
theorem dL_law_1302 : decode cL_law 1302 = .ok (.aload_n 1, 1) := by decide +kernel
theorem dL_law_1303 : decode cL_law 1303 = .ok (.invokevirtual 150, 3) := by decide +kernel
theorem dL_law_1306 : decode cL_law 1306 = .ok (.aload_n 2, 1) := by decide +kernel
theorem dL_law_1307 : decode cL_law 1307 = .ok (.invokevirtual 153, 3) := by decide +kernel
theorem dL_law_1310 : decode cL_law 1310 = .ok (.if_icmp .eq 87, 3) := by decide +kernel
theorem dL_law_1313 : decode cL_law 1313 = .ok (.iconst 0, 1) := by decide +kernel
theorem dL_law_1314 : decode cL_law 1314 = .ok (.ireturn, 1) := by decide +kernel
theorem dL_law_1315 : decode cL_law 1315 = .ok (.aload_n 1, 1) := by decide +kernel
theorem dL_law_1316 : decode cL_law 1316 = .ok (.aload_n 0, 1) := by decide +kernel
theorem dL_law_1317 : decode cL_law 1317 = .ok (.iload_n 3, 1) := by decide +kernel
theorem dL_law_1318 : decode cL_law 1318 = .ok (.iconst 1, 1) := by decide +kernel
theorem dL_law_1319 : decode cL_law 1319 = .ok (.iadd, 1) := by decide +kernel
theorem dL_law_1320 : decode cL_law 1320 = .ok (.iaload, 1) := by decide +kernel
theorem dL_law_1321 : decode cL_law 1321 = .ok (.invokevirtual 154, 3) := by decide +kernel
theorem dL_law_1324 : decode cL_law 1324 = .ok (.aload_n 2, 1) := by decide +kernel
theorem dL_law_1325 : decode cL_law 1325 = .ok (.aload_n 0, 1) := by decide +kernel
theorem dL_law_1326 : decode cL_law 1326 = .ok (.iload_n 3, 1) := by decide +kernel
theorem dL_law_1327 : decode cL_law 1327 = .ok (.iconst 1, 1) := by decide +kernel
theorem dL_law_1328 : decode cL_law 1328 = .ok (.iadd, 1) := by decide +kernel
theorem dL_law_1329 : decode cL_law 1329 = .ok (.iaload, 1) := by decide +kernel
theorem dL_law_1330 : decode cL_law 1330 = .ok (.invokevirtual 157, 3) := by decide +kernel
theorem dL_law_1333 : decode cL_law 1333 = .ok (.if_icmp .eq 64, 3) := by decide +kernel
theorem dL_law_1336 : decode cL_law 1336 = .ok (.iconst 0, 1) := by decide +kernel
theorem dL_law_1337 : decode cL_law 1337 = .ok (.ireturn, 1) := by decide +kernel
theorem dL_law_1338 : decode cL_law 1338 = .ok (.aload_n 1, 1) := by decide +kernel
theorem dL_law_1339 : decode cL_law 1339 = .ok (.invokevirtual 158, 3) := by decide +kernel
theorem dL_law_1342 : decode cL_law 1342 = .ok (.aload_n 2, 1) := by decide +kernel
theorem dL_law_1343 : decode cL_law 1343 = .ok (.invokevirtual 161, 3) := by decide +kernel
theorem dL_law_1346 : decode cL_law 1346 = .ok (.if_icmp .eq 51, 3) := by decide +kernel
theorem dL_law_1349 : decode cL_law 1349 = .ok (.iconst 0, 1) := by decide +kernel
theorem dL_law_1350 : decode cL_law 1350 = .ok (.ireturn, 1) := by decide +kernel
theorem dL_law_1351 : decode cL_law 1351 = .ok (.aload_n 1, 1) := by decide +kernel
theorem dL_law_1352 : decode cL_law 1352 = .ok (.aload_n 0, 1) := by decide +kernel
theorem dL_law_1353 : decode cL_law 1353 = .ok (.iload_n 3, 1) := by decide +kernel
theorem dL_law_1354 : decode cL_law 1354 = .ok (.iconst 1, 1) := by decide +kernel
theorem dL_law_1355 : decode cL_law 1355 = .ok (.iadd, 1) := by decide +kernel
theorem dL_law_1356 : decode cL_law 1356 = .ok (.iaload, 1) := by decide +kernel
theorem dL_law_1357 : decode cL_law 1357 = .ok (.invokevirtual 162, 3) := by decide +kernel
theorem dL_law_1360 : decode cL_law 1360 = .ok (.aload_n 2, 1) := by decide +kernel
theorem dL_law_1361 : decode cL_law 1361 = .ok (.aload_n 0, 1) := by decide +kernel
theorem dL_law_1362 : decode cL_law 1362 = .ok (.iload_n 3, 1) := by decide +kernel
theorem dL_law_1363 : decode cL_law 1363 = .ok (.iconst 1, 1) := by decide +kernel
theorem dL_law_1364 : decode cL_law 1364 = .ok (.iadd, 1) := by decide +kernel
theorem dL_law_1365 : decode cL_law 1365 = .ok (.iaload, 1) := by decide +kernel
theorem dL_law_1366 : decode cL_law 1366 = .ok (.invokevirtual 165, 3) := by decide +kernel
theorem dL_law_1369 : decode cL_law 1369 = .ok (.if_icmp .eq 28, 3) := by decide +kernel
theorem dL_law_1372 : decode cL_law 1372 = .ok (.iconst 0, 1) := by decide +kernel
theorem dL_law_1373 : decode cL_law 1373 = .ok (.ireturn, 1) := by decide +kernel
theorem dL_law_1374 : decode cL_law 1374 = .ok (.aload_n 1, 1) := by decide +kernel
theorem dL_law_1375 : decode cL_law 1375 = .ok (.aload_n 0, 1) := by decide +kernel
theorem dL_law_1376 : decode cL_law 1376 = .ok (.iload_n 3, 1) := by decide +kernel
theorem dL_law_1377 : decode cL_law 1377 = .ok (.iconst 1, 1) := by decide +kernel
theorem dL_law_1378 : decode cL_law 1378 = .ok (.iadd, 1) := by decide +kernel
theorem dL_law_1379 : decode cL_law 1379 = .ok (.iaload, 1) := by decide +kernel
theorem dL_law_1380 : decode cL_law 1380 = .ok (.invokevirtual 166, 3) := by decide +kernel
theorem dL_law_1383 : decode cL_law 1383 = .ok (.aload_n 2, 1) := by decide +kernel
theorem dL_law_1384 : decode cL_law 1384 = .ok (.aload_n 0, 1) := by decide +kernel
theorem dL_law_1385 : decode cL_law 1385 = .ok (.iload_n 3, 1) := by decide +kernel
theorem dL_law_1386 : decode cL_law 1386 = .ok (.iconst 1, 1) := by decide +kernel
theorem dL_law_1387 : decode cL_law 1387 = .ok (.iadd, 1) := by decide +kernel
theorem dL_law_1388 : decode cL_law 1388 = .ok (.iaload, 1) := by decide +kernel
theorem dL_law_1389 : decode cL_law 1389 = .ok (.invokevirtual 169, 3) := by decide +kernel
theorem dL_law_1392 : decode cL_law 1392 = .ok (.if_icmp .eq 5, 3) := by decide +kernel
theorem dL_law_1395 : decode cL_law 1395 = .ok (.iconst 0, 1) := by decide +kernel
theorem dL_law_1396 : decode cL_law 1396 = .ok (.ireturn, 1) := by decide +kernel
theorem dL_law_1397 : decode cL_law 1397 = .ok (.iinc 3 6, 3) := by decide +kernel
theorem dL_law_1400 : decode cL_law 1400 = .ok (.goto (-1382), 3) := by decide +kernel
theorem dL_law_1403 : decode cL_law 1403 = .ok (.iconst 1, 1) := by decide +kernel
theorem dL_law_1404 : decode cL_law 1404 = .ok (.ireturn, 1) := by decide +kernel
abbrev mL_law : MI := (yL_law, cL_law, 4, some .boolean, 99)
section RowsX
variable {XS : XT → Prop} {R : Room} {μ : MI} {kc ks pc : Nat} {ls : List (Option Value)} {st : List Value} {P : AH → Prop} {Q : Option Value → AH → Prop}
theorem r_slen {L : Nat} {xs : Nat → Int32} {z : UInt32} (hXS : ∀ X, XS X → X = some (L, xs)) (hf : decode μ.2.1 pc = .ok (.arraylength, 1)) (kk : AW XS R μ kc ks (pc + 1) ls (.int (Int32.ofNat L) :: st) P Q) : AW XS R μ kc ks pc ls (.float z :: st) P Q := by
  intro p l e s m args below meth c D b base X Z hX hc hz h H locs lsA hP hH hS hL
  obtain ⟨hv, hb⟩ := hc.2.2.2.2.2.2.2.2.2.2.2.2.1 L xs (hXS X hX)
  exact va_slen hc.1 hc.2.1 hv (Nat.lt_of_lt_of_le hb hc.2.2.2.2.2.2.2.2.2.2.2.2.2) (Nat.not_le.mpr hb) hS hf (kk p l e s m args below meth c D b base X Z hX hc hz h H locs lsA hP hH hS hL)
theorem r_sld {L j : Nat} {xs : Nat → Int32} {z : UInt32} {i : Int32} (hXS : ∀ X, XS X → X = some (L, xs)) (hf : decode μ.2.1 pc = .ok (.iaload, 1)) (hi : i.toInt = (j : Int)) (hj : j < L) (kk : AW XS R μ kc ks (pc + 1) ls (.int (xs j) :: st) P Q) : AW XS R μ kc ks pc ls (.int i :: .float z :: st) P Q := by
  intro p l e s m args below meth c D b base X Z hX hc hz h H locs lsA hP hH hS hL
  obtain ⟨hv, hb⟩ := hc.2.2.2.2.2.2.2.2.2.2.2.2.1 L xs (hXS X hX)
  refine va_sld hc.1 hc.2.1 hv (Nat.lt_of_lt_of_le hb hc.2.2.2.2.2.2.2.2.2.2.2.2.2) (Nat.not_le.mpr hb) hS (ix_in hi hj) hf ?_
  rw [ix_cl hi]
  exact kk p l e s m args below meth c D b base X Z hX hc hz h H locs lsA hP hH hS hL
theorem r_PO {idx n d dM a o cnt : Nat} {μ' μm : MI} {as rest asm : List Value} (hf : decode μ.2.1 pc = .ok (.invokevirtual idx, 3)) (hl : Cond.methodLink μ.1.cls idx μ'.1 ∈ lw_g) (hs : Cond.instanceMethod μ'.1 ∈ lw_g) (hse : Cond.selects μ'.1.cls μ'.1 μ'.1 ∈ lw_g) (hk : Lk μ' n) (hp : popn n st [] = (as, .ref a :: rest)) (hn : as.length = n) (hR : Rr R d μ') (hW : Nat.ble (catS rest) 8 = true) (hm : kc ≤ R.cells ∧ ks ≤ R.slots)
    (hct : ∀ h, P h → CV d 0 0 μ' a as h (PO dM μm asm o cnt)) (kk : ∀ r : Int32, AW XS R μ kc ks (pc + 3) ls (.int r :: rest) (fun g => CV dM 0 0 μm (o + 95) asm g (fun v2 g2 => v2 = some (.int r) ∧ WI o (cnt + 1) g2)) Q) : AW XS R μ kc ks pc ls st P Q :=
  r_invV as rest hf hl hs hse hk hn (popn_st hp) hR (by rw [catS_ok]; exact Nat.le_of_ble_eq_true hW) hm hct (fun v => aw_P (P' := fun g => ∃ r : Int32, v = some (.int r) ∧ CV dM 0 0 μm (o + 95) asm g (fun v2 g2 => v2 = some (.int r) ∧ WI o (cnt + 1) g2)) (fun _ q => q) (aw_ex fun r => aw_pr fun e => by subst e; exact kk r))
end RowsX
theorem ixs {k j : Nat} (h : 6 * k + j ≤ 4000) : (nI (6 * k) + nI j).toInt = ((6 * k + j : Nat) : Int) := by rw [nI_add, nI_T h]
theorem WI.up {o cnt : Nat} {g : AH} (w : WI o cnt g) : WI o (cnt + 1) g := by
  obtain ⟨K, hs, lD, lL, tp, wa, z, kC, tD, tL, kM, bt, sh, hd, er, im, h, s, A, wc, q⟩ := w
  exact ⟨K, hs, lD, lL, tp, wa, z, kC, tD, tL, kM, bt, sh, hd, er, im, h, s, A, wc.up, q⟩
theorem K0_ok : KOk K0 ∧ TB K0 9999 9999 := ⟨⟨⟨by decide, by decide⟩, ⟨by decide, by decide⟩, by decide, by decide, by decide, ⟨by decide, by decide⟩, fun _ _ => Nat.zero_le _⟩, by decide, fun _ _ => ⟨Int.le_refl _, (by decide : (-1 : Int) ≤ 9999)⟩⟩
theorem law_init {h g2 : AH} (q : GA 0 K0 [] [] [] [] [] 1 (K0, [], [], [], [], [], 1) (fun _ => 0) (fun _ => []) [] (List.replicate 6 0) 0 h) (h1 : h.1 = 0 + 95 + 1) (x : ∃ s A, MG K0 [] none none [] [] 1 (K0, [], none, none, [], [], 1) (fun _ => 0) (fun _ => []) [] (List.replicate 6 0) 0 s A ∧ MP (0 + 95) (0 + 95 + 15, h.2) s A g2) : WI 0 0 g2 := by
  obtain ⟨s, A, M, hg⟩ := x
  have ho : HOk [] := ⟨Nat.zero_le _, fun q hq => absurd hq List.not_mem_nil⟩
  refine ⟨K0, [], [], [], [], [], 1, (K0, [], [], [], [], [], 1), none, none, (K0, [], none, none, [], [], 1), fun _ => 0, fun _ => [], [], List.replicate 6 0, 0, (0 + 95 + 15, h.2), s, A, ⟨K0_ok.1, K0_ok.2, ho, Or.inl ⟨rfl, rfl⟩, Or.inl ⟨rfl, rfl⟩, ⟨⟨K0_ok.1, K0_ok.2, ho⟩, ⟨rfl, rfl⟩, ⟨Or.inl ⟨rfl, rfl⟩, Or.inl ⟨rfl, rfl⟩⟩, rfl⟩, Nat.le_refl _⟩, ?_, ?_, M, hg⟩
  · rw [show g2 = _ from hg]
    refine GA_gr q ⟨?_, fun j h2 h3 => ?_⟩
    · rw [h1]; show 0 + 95 + 1 ≤ 0 + 95 + 15; decide
    · show (if j = 0 + 95 then _ else if 0 + 95 < j ∧ j ≤ 0 + 95 + 14 then _ else _) = _
      rw [if_neg (by omega), if_neg (by omega)]
  · show 0 + 95 + 14 < 0 + 95 + 15
    decide
theorem sub_lt0 : ∀ L, L < 6 → (Int32.ofNat L - 6 : Int32) < nI 0 := by decide
set_option maxHeartbeats 4000000 in
theorem law_0 {L k : Nat} {xs : Nat → Int32} (hL : L ≤ 3072) (hk : 6 * k + 6 ≤ L) (TL : AW (fun X => X = some (L, xs)) room_1 mL_law 110 9819 1397 [some (.float 0), some (.ref 0), some (.ref (0 + 95)), some (.int (nI (6 * k)))] [] (WI 0 (k + 1)) (fun v _ => v = some (.int 1))) : AW (fun X => X = some (L, xs)) room_1 mL_law 110 9819 196 [some (.float 0), some (.ref 0), some (.ref (0 + 95)), some (.int (nI (6 * k)))] [] (WI 0 k) (fun v _ => v = some (.int 1)) := by
  refine r_aload_n (pc := 196) dL_law_196 rfl ?_
  refine r_aload_nX (pc := 197) dL_law_197 rfl ?_
  refine r_iload_n (pc := 198) dL_law_198 rfl ?_
  refine r_iconst (pc := 199) (v := 1) dL_law_199 (by decide) ?_
  refine r_iadd (pc := 200) dL_law_200 ?_
  refine r_sld (pc := 201) (j := 6 * k + 1) (fun _ q => q) dL_law_201 (ixs (j := 1) (by omega)) (by omega) ?_
  refine r_aload_nX (pc := 202) dL_law_202 rfl ?_
  refine r_iload_n (pc := 203) dL_law_203 rfl ?_
  refine r_iconst (pc := 204) (v := 2) dL_law_204 (by decide) ?_
  refine r_iadd (pc := 205) dL_law_205 ?_
  refine r_sld (pc := 206) (j := 6 * k + 2) (fun _ q => q) dL_law_206 (ixs (j := 2) (by omega)) (by omega) ?_
  refine r_PO (pc := 207) (μ' := mX11_ceiling) (μm := mX12_ceiling) dL_law_207 nL_13 iX11_ceiling vX11_ceiling kX11_ceiling rfl rfl ⟨(Nat.le_of_ble_eq_true rfl), (Nat.le_of_ble_eq_true rfl)⟩ rfl ⟨(Nat.le_of_ble_eq_true rfl), (Nat.le_of_ble_eq_true rfl)⟩ (fun _ q => op_ceiling q) (fun r => ?_)
  refine r_aload_n (pc := 210) dL_law_210 rfl ?_
  refine r_aload_nX (pc := 211) dL_law_211 rfl ?_
  refine r_iload_n (pc := 212) dL_law_212 rfl ?_
  refine r_iconst (pc := 213) (v := 1) dL_law_213 (by decide) ?_
  refine r_iadd (pc := 214) dL_law_214 ?_
  refine r_sld (pc := 215) (j := 6 * k + 1) (fun _ q => q) dL_law_215 (ixs (j := 1) (by omega)) (by omega) ?_
  refine r_aload_nX (pc := 216) dL_law_216 rfl ?_
  refine r_iload_n (pc := 217) dL_law_217 rfl ?_
  refine r_iconst (pc := 218) (v := 2) dL_law_218 (by decide) ?_
  refine r_iadd (pc := 219) dL_law_219 ?_
  refine r_sld (pc := 220) (j := 6 * k + 2) (fun _ q => q) dL_law_220 (ixs (j := 2) (by omega)) (by omega) ?_
  refine r_Vi (pc := 221) (μ' := mX12_ceiling) (x := r) (P' := WI 0 (k + 1)) dL_law_221 nL_17 iX12_ceiling vX12_ceiling kX12_ceiling rfl rfl ⟨(Nat.le_of_ble_eq_true rfl), (Nat.le_of_ble_eq_true rfl)⟩ rfl ⟨(Nat.le_of_ble_eq_true rfl), (Nat.le_of_ble_eq_true rfl)⟩ (fun _ q => q) ?_
  exact r_icmp_eq (pc := 224) 1397 dL_law_224 (by decide) (fun _ => TL) (fun c => absurd rfl c)
set_option maxHeartbeats 4000000 in
theorem law_1 {L k : Nat} {xs : Nat → Int32} (hL : L ≤ 3072) (hk : 6 * k + 6 ≤ L) (TL : AW (fun X => X = some (L, xs)) room_1 mL_law 110 9819 1397 [some (.float 0), some (.ref 0), some (.ref (0 + 95)), some (.int (nI (6 * k)))] [] (WI 0 (k + 1)) (fun v _ => v = some (.int 1))) : AW (fun X => X = some (L, xs)) room_1 mL_law 110 9819 229 [some (.float 0), some (.ref 0), some (.ref (0 + 95)), some (.int (nI (6 * k)))] [] (WI 0 k) (fun v _ => v = some (.int 1)) := by
  refine r_aload_n (pc := 229) dL_law_229 rfl ?_
  refine r_aload_nX (pc := 230) dL_law_230 rfl ?_
  refine r_iload_n (pc := 231) dL_law_231 rfl ?_
  refine r_iconst (pc := 232) (v := 1) dL_law_232 (by decide) ?_
  refine r_iadd (pc := 233) dL_law_233 ?_
  refine r_sld (pc := 234) (j := 6 * k + 1) (fun _ q => q) dL_law_234 (ixs (j := 1) (by omega)) (by omega) ?_
  refine r_aload_nX (pc := 235) dL_law_235 rfl ?_
  refine r_iload_n (pc := 236) dL_law_236 rfl ?_
  refine r_iconst (pc := 237) (v := 2) dL_law_237 (by decide) ?_
  refine r_iadd (pc := 238) dL_law_238 ?_
  refine r_sld (pc := 239) (j := 6 * k + 2) (fun _ q => q) dL_law_239 (ixs (j := 2) (by omega)) (by omega) ?_
  refine r_PO (pc := 240) (μ' := mX11_set) (μm := mX12_set) dL_law_240 nL_18 iX11_set vX11_set kX11_set rfl rfl ⟨(Nat.le_of_ble_eq_true rfl), (Nat.le_of_ble_eq_true rfl)⟩ rfl ⟨(Nat.le_of_ble_eq_true rfl), (Nat.le_of_ble_eq_true rfl)⟩ (fun _ q => op_set q) (fun r => ?_)
  refine r_aload_n (pc := 243) dL_law_243 rfl ?_
  refine r_aload_nX (pc := 244) dL_law_244 rfl ?_
  refine r_iload_n (pc := 245) dL_law_245 rfl ?_
  refine r_iconst (pc := 246) (v := 1) dL_law_246 (by decide) ?_
  refine r_iadd (pc := 247) dL_law_247 ?_
  refine r_sld (pc := 248) (j := 6 * k + 1) (fun _ q => q) dL_law_248 (ixs (j := 1) (by omega)) (by omega) ?_
  refine r_aload_nX (pc := 249) dL_law_249 rfl ?_
  refine r_iload_n (pc := 250) dL_law_250 rfl ?_
  refine r_iconst (pc := 251) (v := 2) dL_law_251 (by decide) ?_
  refine r_iadd (pc := 252) dL_law_252 ?_
  refine r_sld (pc := 253) (j := 6 * k + 2) (fun _ q => q) dL_law_253 (ixs (j := 2) (by omega)) (by omega) ?_
  refine r_Vi (pc := 254) (μ' := mX12_set) (x := r) (P' := WI 0 (k + 1)) dL_law_254 nL_21 iX12_set vX12_set kX12_set rfl rfl ⟨(Nat.le_of_ble_eq_true rfl), (Nat.le_of_ble_eq_true rfl)⟩ rfl ⟨(Nat.le_of_ble_eq_true rfl), (Nat.le_of_ble_eq_true rfl)⟩ (fun _ q => q) ?_
  exact r_icmp_eq (pc := 257) 1397 dL_law_257 (by decide) (fun _ => TL) (fun c => absurd rfl c)
set_option maxHeartbeats 4000000 in
theorem law_2 {L k : Nat} {xs : Nat → Int32} (hL : L ≤ 3072) (hk : 6 * k + 6 ≤ L) (TL : AW (fun X => X = some (L, xs)) room_1 mL_law 110 9819 1397 [some (.float 0), some (.ref 0), some (.ref (0 + 95)), some (.int (nI (6 * k)))] [] (WI 0 (k + 1)) (fun v _ => v = some (.int 1))) : AW (fun X => X = some (L, xs)) room_1 mL_law 110 9819 262 [some (.float 0), some (.ref 0), some (.ref (0 + 95)), some (.int (nI (6 * k)))] [] (WI 0 k) (fun v _ => v = some (.int 1)) := by
  refine r_aload_n (pc := 262) dL_law_262 rfl ?_
  refine r_aload_nX (pc := 263) dL_law_263 rfl ?_
  refine r_iload_n (pc := 264) dL_law_264 rfl ?_
  refine r_iconst (pc := 265) (v := 1) dL_law_265 (by decide) ?_
  refine r_iadd (pc := 266) dL_law_266 ?_
  refine r_sld (pc := 267) (j := 6 * k + 1) (fun _ q => q) dL_law_267 (ixs (j := 1) (by omega)) (by omega) ?_
  refine r_aload_nX (pc := 268) dL_law_268 rfl ?_
  refine r_iload_n (pc := 269) dL_law_269 rfl ?_
  refine r_iconst (pc := 270) (v := 2) dL_law_270 (by decide) ?_
  refine r_iadd (pc := 271) dL_law_271 ?_
  refine r_sld (pc := 272) (j := 6 * k + 2) (fun _ q => q) dL_law_272 (ixs (j := 2) (by omega)) (by omega) ?_
  refine r_PO (pc := 273) (μ' := mX11_ofCell) (μm := mX12_ofCell) dL_law_273 nL_22 iX11_ofCell vX11_ofCell kX11_ofCell rfl rfl ⟨(Nat.le_of_ble_eq_true rfl), (Nat.le_of_ble_eq_true rfl)⟩ rfl ⟨(Nat.le_of_ble_eq_true rfl), (Nat.le_of_ble_eq_true rfl)⟩ (fun _ q => op_ofCell q) (fun r => ?_)
  refine r_aload_n (pc := 276) dL_law_276 rfl ?_
  refine r_aload_nX (pc := 277) dL_law_277 rfl ?_
  refine r_iload_n (pc := 278) dL_law_278 rfl ?_
  refine r_iconst (pc := 279) (v := 1) dL_law_279 (by decide) ?_
  refine r_iadd (pc := 280) dL_law_280 ?_
  refine r_sld (pc := 281) (j := 6 * k + 1) (fun _ q => q) dL_law_281 (ixs (j := 1) (by omega)) (by omega) ?_
  refine r_aload_nX (pc := 282) dL_law_282 rfl ?_
  refine r_iload_n (pc := 283) dL_law_283 rfl ?_
  refine r_iconst (pc := 284) (v := 2) dL_law_284 (by decide) ?_
  refine r_iadd (pc := 285) dL_law_285 ?_
  refine r_sld (pc := 286) (j := 6 * k + 2) (fun _ q => q) dL_law_286 (ixs (j := 2) (by omega)) (by omega) ?_
  refine r_Vi (pc := 287) (μ' := mX12_ofCell) (x := r) (P' := WI 0 (k + 1)) dL_law_287 nL_25 iX12_ofCell vX12_ofCell kX12_ofCell rfl rfl ⟨(Nat.le_of_ble_eq_true rfl), (Nat.le_of_ble_eq_true rfl)⟩ rfl ⟨(Nat.le_of_ble_eq_true rfl), (Nat.le_of_ble_eq_true rfl)⟩ (fun _ q => q) ?_
  exact r_icmp_eq (pc := 290) 1397 dL_law_290 (by decide) (fun _ => TL) (fun c => absurd rfl c)
set_option maxHeartbeats 4000000 in
theorem law_3 {L k : Nat} {xs : Nat → Int32} (hL : L ≤ 3072) (hk : 6 * k + 6 ≤ L) (TL : AW (fun X => X = some (L, xs)) room_1 mL_law 110 9819 1397 [some (.float 0), some (.ref 0), some (.ref (0 + 95)), some (.int (nI (6 * k)))] [] (WI 0 (k + 1)) (fun v _ => v = some (.int 1))) : AW (fun X => X = some (L, xs)) room_1 mL_law 110 9819 295 [some (.float 0), some (.ref 0), some (.ref (0 + 95)), some (.int (nI (6 * k)))] [] (WI 0 k) (fun v _ => v = some (.int 1)) := by
  refine r_aload_n (pc := 295) dL_law_295 rfl ?_
  refine r_aload_nX (pc := 296) dL_law_296 rfl ?_
  refine r_iload_n (pc := 297) dL_law_297 rfl ?_
  refine r_iconst (pc := 298) (v := 1) dL_law_298 (by decide) ?_
  refine r_iadd (pc := 299) dL_law_299 ?_
  refine r_sld (pc := 300) (j := 6 * k + 1) (fun _ q => q) dL_law_300 (ixs (j := 1) (by omega)) (by omega) ?_
  refine r_PO (pc := 301) (μ' := mX11_hand) (μm := mX12_hand) dL_law_301 nL_26 iX11_hand vX11_hand kX11_hand rfl rfl ⟨(Nat.le_of_ble_eq_true rfl), (Nat.le_of_ble_eq_true rfl)⟩ rfl ⟨(Nat.le_of_ble_eq_true rfl), (Nat.le_of_ble_eq_true rfl)⟩ (fun _ q => op_hand q) (fun r => ?_)
  refine r_aload_n (pc := 304) dL_law_304 rfl ?_
  refine r_aload_nX (pc := 305) dL_law_305 rfl ?_
  refine r_iload_n (pc := 306) dL_law_306 rfl ?_
  refine r_iconst (pc := 307) (v := 1) dL_law_307 (by decide) ?_
  refine r_iadd (pc := 308) dL_law_308 ?_
  refine r_sld (pc := 309) (j := 6 * k + 1) (fun _ q => q) dL_law_309 (ixs (j := 1) (by omega)) (by omega) ?_
  refine r_Vi (pc := 310) (μ' := mX12_hand) (x := r) (P' := WI 0 (k + 1)) dL_law_310 nL_30 iX12_hand vX12_hand kX12_hand rfl rfl ⟨(Nat.le_of_ble_eq_true rfl), (Nat.le_of_ble_eq_true rfl)⟩ rfl ⟨(Nat.le_of_ble_eq_true rfl), (Nat.le_of_ble_eq_true rfl)⟩ (fun _ q => q) ?_
  exact r_icmp_eq (pc := 313) 1397 dL_law_313 (by decide) (fun _ => TL) (fun c => absurd rfl c)
set_option maxHeartbeats 4000000 in
theorem law_4 {L k : Nat} {xs : Nat → Int32} (hL : L ≤ 3072) (hk : 6 * k + 6 ≤ L) (TL : AW (fun X => X = some (L, xs)) room_1 mL_law 110 9819 1397 [some (.float 0), some (.ref 0), some (.ref (0 + 95)), some (.int (nI (6 * k)))] [] (WI 0 (k + 1)) (fun v _ => v = some (.int 1))) : AW (fun X => X = some (L, xs)) room_1 mL_law 110 9819 318 [some (.float 0), some (.ref 0), some (.ref (0 + 95)), some (.int (nI (6 * k)))] [] (WI 0 k) (fun v _ => v = some (.int 1)) := by
  refine r_aload_n (pc := 318) dL_law_318 rfl ?_
  refine r_aload_nX (pc := 319) dL_law_319 rfl ?_
  refine r_iload_n (pc := 320) dL_law_320 rfl ?_
  refine r_iconst (pc := 321) (v := 1) dL_law_321 (by decide) ?_
  refine r_iadd (pc := 322) dL_law_322 ?_
  refine r_sld (pc := 323) (j := 6 * k + 1) (fun _ q => q) dL_law_323 (ixs (j := 1) (by omega)) (by omega) ?_
  refine r_aload_nX (pc := 324) dL_law_324 rfl ?_
  refine r_iload_n (pc := 325) dL_law_325 rfl ?_
  refine r_iconst (pc := 326) (v := 2) dL_law_326 (by decide) ?_
  refine r_iadd (pc := 327) dL_law_327 ?_
  refine r_sld (pc := 328) (j := 6 * k + 2) (fun _ q => q) dL_law_328 (ixs (j := 2) (by omega)) (by omega) ?_
  refine r_PO (pc := 329) (μ' := mX11_ofHand) (μm := mX12_ofHand) dL_law_329 nL_31 iX11_ofHand vX11_ofHand kX11_ofHand rfl rfl ⟨(Nat.le_of_ble_eq_true rfl), (Nat.le_of_ble_eq_true rfl)⟩ rfl ⟨(Nat.le_of_ble_eq_true rfl), (Nat.le_of_ble_eq_true rfl)⟩ (fun _ q => op_ofHand q) (fun r => ?_)
  refine r_aload_n (pc := 332) dL_law_332 rfl ?_
  refine r_aload_nX (pc := 333) dL_law_333 rfl ?_
  refine r_iload_n (pc := 334) dL_law_334 rfl ?_
  refine r_iconst (pc := 335) (v := 1) dL_law_335 (by decide) ?_
  refine r_iadd (pc := 336) dL_law_336 ?_
  refine r_sld (pc := 337) (j := 6 * k + 1) (fun _ q => q) dL_law_337 (ixs (j := 1) (by omega)) (by omega) ?_
  refine r_aload_nX (pc := 338) dL_law_338 rfl ?_
  refine r_iload_n (pc := 339) dL_law_339 rfl ?_
  refine r_iconst (pc := 340) (v := 2) dL_law_340 (by decide) ?_
  refine r_iadd (pc := 341) dL_law_341 ?_
  refine r_sld (pc := 342) (j := 6 * k + 2) (fun _ q => q) dL_law_342 (ixs (j := 2) (by omega)) (by omega) ?_
  refine r_Vi (pc := 343) (μ' := mX12_ofHand) (x := r) (P' := WI 0 (k + 1)) dL_law_343 nL_34 iX12_ofHand vX12_ofHand kX12_ofHand rfl rfl ⟨(Nat.le_of_ble_eq_true rfl), (Nat.le_of_ble_eq_true rfl)⟩ rfl ⟨(Nat.le_of_ble_eq_true rfl), (Nat.le_of_ble_eq_true rfl)⟩ (fun _ q => q) ?_
  exact r_icmp_eq (pc := 346) 1397 dL_law_346 (by decide) (fun _ => TL) (fun c => absurd rfl c)
set_option maxHeartbeats 4000000 in
theorem law_5 {L k : Nat} {xs : Nat → Int32} (hL : L ≤ 3072) (hk : 6 * k + 6 ≤ L) (TL : AW (fun X => X = some (L, xs)) room_1 mL_law 110 9819 1397 [some (.float 0), some (.ref 0), some (.ref (0 + 95)), some (.int (nI (6 * k)))] [] (WI 0 (k + 1)) (fun v _ => v = some (.int 1))) : AW (fun X => X = some (L, xs)) room_1 mL_law 110 9819 351 [some (.float 0), some (.ref 0), some (.ref (0 + 95)), some (.int (nI (6 * k)))] [] (WI 0 k) (fun v _ => v = some (.int 1)) := by
  refine r_aload_n (pc := 351) dL_law_351 rfl ?_
  refine r_aload_nX (pc := 352) dL_law_352 rfl ?_
  refine r_iload_n (pc := 353) dL_law_353 rfl ?_
  refine r_iconst (pc := 354) (v := 1) dL_law_354 (by decide) ?_
  refine r_iadd (pc := 355) dL_law_355 ?_
  refine r_sld (pc := 356) (j := 6 * k + 1) (fun _ q => q) dL_law_356 (ixs (j := 1) (by omega)) (by omega) ?_
  refine r_aload_nX (pc := 357) dL_law_357 rfl ?_
  refine r_iload_n (pc := 358) dL_law_358 rfl ?_
  refine r_iconst (pc := 359) (v := 2) dL_law_359 (by decide) ?_
  refine r_iadd (pc := 360) dL_law_360 ?_
  refine r_sld (pc := 361) (j := 6 * k + 2) (fun _ q => q) dL_law_361 (ixs (j := 2) (by omega)) (by omega) ?_
  refine r_PO (pc := 362) (μ' := mX11_become) (μm := mX12_become) dL_law_362 nL_35 iX11_become vX11_become kX11_become rfl rfl ⟨(Nat.le_of_ble_eq_true rfl), (Nat.le_of_ble_eq_true rfl)⟩ rfl ⟨(Nat.le_of_ble_eq_true rfl), (Nat.le_of_ble_eq_true rfl)⟩ (fun _ q => op_become q) (fun r => ?_)
  refine r_aload_n (pc := 365) dL_law_365 rfl ?_
  refine r_aload_nX (pc := 366) dL_law_366 rfl ?_
  refine r_iload_n (pc := 367) dL_law_367 rfl ?_
  refine r_iconst (pc := 368) (v := 1) dL_law_368 (by decide) ?_
  refine r_iadd (pc := 369) dL_law_369 ?_
  refine r_sld (pc := 370) (j := 6 * k + 1) (fun _ q => q) dL_law_370 (ixs (j := 1) (by omega)) (by omega) ?_
  refine r_aload_nX (pc := 371) dL_law_371 rfl ?_
  refine r_iload_n (pc := 372) dL_law_372 rfl ?_
  refine r_iconst (pc := 373) (v := 2) dL_law_373 (by decide) ?_
  refine r_iadd (pc := 374) dL_law_374 ?_
  refine r_sld (pc := 375) (j := 6 * k + 2) (fun _ q => q) dL_law_375 (ixs (j := 2) (by omega)) (by omega) ?_
  refine r_Vi (pc := 376) (μ' := mX12_become) (x := r) (P' := WI 0 (k + 1)) dL_law_376 nL_38 iX12_become vX12_become kX12_become rfl rfl ⟨(Nat.le_of_ble_eq_true rfl), (Nat.le_of_ble_eq_true rfl)⟩ rfl ⟨(Nat.le_of_ble_eq_true rfl), (Nat.le_of_ble_eq_true rfl)⟩ (fun _ q => q) ?_
  exact r_icmp_eq (pc := 379) 1397 dL_law_379 (by decide) (fun _ => TL) (fun c => absurd rfl c)
set_option maxHeartbeats 4000000 in
theorem law_6 {L k : Nat} {xs : Nat → Int32} (hL : L ≤ 3072) (hk : 6 * k + 6 ≤ L) (TL : AW (fun X => X = some (L, xs)) room_1 mL_law 110 9819 1397 [some (.float 0), some (.ref 0), some (.ref (0 + 95)), some (.int (nI (6 * k)))] [] (WI 0 (k + 1)) (fun v _ => v = some (.int 1))) : AW (fun X => X = some (L, xs)) room_1 mL_law 110 9819 384 [some (.float 0), some (.ref 0), some (.ref (0 + 95)), some (.int (nI (6 * k)))] [] (WI 0 k) (fun v _ => v = some (.int 1)) := by
  refine r_aload_n (pc := 384) dL_law_384 rfl ?_
  refine r_aload_nX (pc := 385) dL_law_385 rfl ?_
  refine r_iload_n (pc := 386) dL_law_386 rfl ?_
  refine r_iconst (pc := 387) (v := 1) dL_law_387 (by decide) ?_
  refine r_iadd (pc := 388) dL_law_388 ?_
  refine r_sld (pc := 389) (j := 6 * k + 1) (fun _ q => q) dL_law_389 (ixs (j := 1) (by omega)) (by omega) ?_
  refine r_aload_nX (pc := 390) dL_law_390 rfl ?_
  refine r_iload_n (pc := 391) dL_law_391 rfl ?_
  refine r_iconst (pc := 392) (v := 2) dL_law_392 (by decide) ?_
  refine r_iadd (pc := 393) dL_law_393 ?_
  refine r_sld (pc := 394) (j := 6 * k + 2) (fun _ q => q) dL_law_394 (ixs (j := 2) (by omega)) (by omega) ?_
  refine r_PO (pc := 395) (μ' := mX11_as) (μm := mX12_as) dL_law_395 nL_39 iX11_as vX11_as kX11_as rfl rfl ⟨(Nat.le_of_ble_eq_true rfl), (Nat.le_of_ble_eq_true rfl)⟩ rfl ⟨(Nat.le_of_ble_eq_true rfl), (Nat.le_of_ble_eq_true rfl)⟩ (fun _ q => op_as q) (fun r => ?_)
  refine r_aload_n (pc := 398) dL_law_398 rfl ?_
  refine r_aload_nX (pc := 399) dL_law_399 rfl ?_
  refine r_iload_n (pc := 400) dL_law_400 rfl ?_
  refine r_iconst (pc := 401) (v := 1) dL_law_401 (by decide) ?_
  refine r_iadd (pc := 402) dL_law_402 ?_
  refine r_sld (pc := 403) (j := 6 * k + 1) (fun _ q => q) dL_law_403 (ixs (j := 1) (by omega)) (by omega) ?_
  refine r_aload_nX (pc := 404) dL_law_404 rfl ?_
  refine r_iload_n (pc := 405) dL_law_405 rfl ?_
  refine r_iconst (pc := 406) (v := 2) dL_law_406 (by decide) ?_
  refine r_iadd (pc := 407) dL_law_407 ?_
  refine r_sld (pc := 408) (j := 6 * k + 2) (fun _ q => q) dL_law_408 (ixs (j := 2) (by omega)) (by omega) ?_
  refine r_Vi (pc := 409) (μ' := mX12_as) (x := r) (P' := WI 0 (k + 1)) dL_law_409 nL_42 iX12_as vX12_as kX12_as rfl rfl ⟨(Nat.le_of_ble_eq_true rfl), (Nat.le_of_ble_eq_true rfl)⟩ rfl ⟨(Nat.le_of_ble_eq_true rfl), (Nat.le_of_ble_eq_true rfl)⟩ (fun _ q => q) ?_
  exact r_icmp_eq (pc := 412) 1397 dL_law_412 (by decide) (fun _ => TL) (fun c => absurd rfl c)
set_option maxHeartbeats 4000000 in
theorem law_7 {L k : Nat} {xs : Nat → Int32} (hL : L ≤ 3072) (hk : 6 * k + 6 ≤ L) (TL : AW (fun X => X = some (L, xs)) room_1 mL_law 110 9819 1397 [some (.float 0), some (.ref 0), some (.ref (0 + 95)), some (.int (nI (6 * k)))] [] (WI 0 (k + 1)) (fun v _ => v = some (.int 1))) : AW (fun X => X = some (L, xs)) room_1 mL_law 110 9819 417 [some (.float 0), some (.ref 0), some (.ref (0 + 95)), some (.int (nI (6 * k)))] [] (WI 0 k) (fun v _ => v = some (.int 1)) := by
  refine r_aload_n (pc := 417) dL_law_417 rfl ?_
  refine r_aload_nX (pc := 418) dL_law_418 rfl ?_
  refine r_iload_n (pc := 419) dL_law_419 rfl ?_
  refine r_iconst (pc := 420) (v := 1) dL_law_420 (by decide) ?_
  refine r_iadd (pc := 421) dL_law_421 ?_
  refine r_sld (pc := 422) (j := 6 * k + 1) (fun _ q => q) dL_law_422 (ixs (j := 1) (by omega)) (by omega) ?_
  refine r_i2l (pc := 423) dL_law_423 ?_
  refine r_bipush (pc := 424) (v := 32) dL_law_424 (by decide) ?_
  refine r_lshl (pc := 426) dL_law_426 ?_
  refine r_aload_nX (pc := 427) dL_law_427 rfl ?_
  refine r_iload_n (pc := 428) dL_law_428 rfl ?_
  refine r_iconst (pc := 429) (v := 2) dL_law_429 (by decide) ?_
  refine r_iadd (pc := 430) dL_law_430 ?_
  refine r_sld (pc := 431) (j := 6 * k + 2) (fun _ q => q) dL_law_431 (ixs (j := 2) (by omega)) (by omega) ?_
  refine r_i2l (pc := 432) dL_law_432 ?_
  refine r_ldc2 (pc := 433) (v := 4294967295) dL_law_433 qL_43 ?_
  refine r_land (pc := 436) dL_law_436 ?_
  refine r_lor (pc := 437) dL_law_437 ?_
  refine r_aload_nX (pc := 438) dL_law_438 rfl ?_
  refine r_iload_n (pc := 439) dL_law_439 rfl ?_
  refine r_iconst (pc := 440) (v := 3) dL_law_440 (by decide) ?_
  refine r_iadd (pc := 441) dL_law_441 ?_
  refine r_sld (pc := 442) (j := 6 * k + 3) (fun _ q => q) dL_law_442 (ixs (j := 3) (by omega)) (by omega) ?_
  refine r_PO (pc := 443) (μ' := mX11_feed) (μm := mX12_feed) dL_law_443 nL_45 iX11_feed vX11_feed kX11_feed rfl rfl ⟨(Nat.le_of_ble_eq_true rfl), (Nat.le_of_ble_eq_true rfl)⟩ rfl ⟨(Nat.le_of_ble_eq_true rfl), (Nat.le_of_ble_eq_true rfl)⟩ (fun _ q => op_feed q) (fun r => ?_)
  refine r_aload_n (pc := 446) dL_law_446 rfl ?_
  refine r_aload_nX (pc := 447) dL_law_447 rfl ?_
  refine r_iload_n (pc := 448) dL_law_448 rfl ?_
  refine r_iconst (pc := 449) (v := 1) dL_law_449 (by decide) ?_
  refine r_iadd (pc := 450) dL_law_450 ?_
  refine r_sld (pc := 451) (j := 6 * k + 1) (fun _ q => q) dL_law_451 (ixs (j := 1) (by omega)) (by omega) ?_
  refine r_i2l (pc := 452) dL_law_452 ?_
  refine r_bipush (pc := 453) (v := 32) dL_law_453 (by decide) ?_
  refine r_lshl (pc := 455) dL_law_455 ?_
  refine r_aload_nX (pc := 456) dL_law_456 rfl ?_
  refine r_iload_n (pc := 457) dL_law_457 rfl ?_
  refine r_iconst (pc := 458) (v := 2) dL_law_458 (by decide) ?_
  refine r_iadd (pc := 459) dL_law_459 ?_
  refine r_sld (pc := 460) (j := 6 * k + 2) (fun _ q => q) dL_law_460 (ixs (j := 2) (by omega)) (by omega) ?_
  refine r_i2l (pc := 461) dL_law_461 ?_
  refine r_ldc2 (pc := 462) (v := 4294967295) dL_law_462 qL_43 ?_
  refine r_land (pc := 465) dL_law_465 ?_
  refine r_lor (pc := 466) dL_law_466 ?_
  refine r_aload_nX (pc := 467) dL_law_467 rfl ?_
  refine r_iload_n (pc := 468) dL_law_468 rfl ?_
  refine r_iconst (pc := 469) (v := 3) dL_law_469 (by decide) ?_
  refine r_iadd (pc := 470) dL_law_470 ?_
  refine r_sld (pc := 471) (j := 6 * k + 3) (fun _ q => q) dL_law_471 (ixs (j := 3) (by omega)) (by omega) ?_
  refine r_Vi (pc := 472) (μ' := mX12_feed) (x := r) (P' := WI 0 (k + 1)) dL_law_472 nL_49 iX12_feed vX12_feed kX12_feed rfl rfl ⟨(Nat.le_of_ble_eq_true rfl), (Nat.le_of_ble_eq_true rfl)⟩ rfl ⟨(Nat.le_of_ble_eq_true rfl), (Nat.le_of_ble_eq_true rfl)⟩ (fun _ q => q) ?_
  exact r_icmp_eq (pc := 475) 1397 dL_law_475 (by decide) (fun _ => TL) (fun c => absurd rfl c)
set_option maxHeartbeats 4000000 in
theorem law_8 {L k : Nat} {xs : Nat → Int32} (hL : L ≤ 3072) (hk : 6 * k + 6 ≤ L) (TL : AW (fun X => X = some (L, xs)) room_1 mL_law 110 9819 1397 [some (.float 0), some (.ref 0), some (.ref (0 + 95)), some (.int (nI (6 * k)))] [] (WI 0 (k + 1)) (fun v _ => v = some (.int 1))) : AW (fun X => X = some (L, xs)) room_1 mL_law 110 9819 480 [some (.float 0), some (.ref 0), some (.ref (0 + 95)), some (.int (nI (6 * k)))] [] (WI 0 k) (fun v _ => v = some (.int 1)) := by
  refine r_aload_n (pc := 480) dL_law_480 rfl ?_
  refine r_aload_nX (pc := 481) dL_law_481 rfl ?_
  refine r_iload_n (pc := 482) dL_law_482 rfl ?_
  refine r_iconst (pc := 483) (v := 1) dL_law_483 (by decide) ?_
  refine r_iadd (pc := 484) dL_law_484 ?_
  refine r_sld (pc := 485) (j := 6 * k + 1) (fun _ q => q) dL_law_485 (ixs (j := 1) (by omega)) (by omega) ?_
  refine r_PO (pc := 486) (μ' := mX11_text) (μm := mX12_text) dL_law_486 nL_50 iX11_text vX11_text kX11_text rfl rfl ⟨(Nat.le_of_ble_eq_true rfl), (Nat.le_of_ble_eq_true rfl)⟩ rfl ⟨(Nat.le_of_ble_eq_true rfl), (Nat.le_of_ble_eq_true rfl)⟩ (fun _ q => op_text q) (fun r => ?_)
  refine r_aload_n (pc := 489) dL_law_489 rfl ?_
  refine r_aload_nX (pc := 490) dL_law_490 rfl ?_
  refine r_iload_n (pc := 491) dL_law_491 rfl ?_
  refine r_iconst (pc := 492) (v := 1) dL_law_492 (by decide) ?_
  refine r_iadd (pc := 493) dL_law_493 ?_
  refine r_sld (pc := 494) (j := 6 * k + 1) (fun _ q => q) dL_law_494 (ixs (j := 1) (by omega)) (by omega) ?_
  refine r_Vi (pc := 495) (μ' := mX12_text) (x := r) (P' := WI 0 (k + 1)) dL_law_495 nL_53 iX12_text vX12_text kX12_text rfl rfl ⟨(Nat.le_of_ble_eq_true rfl), (Nat.le_of_ble_eq_true rfl)⟩ rfl ⟨(Nat.le_of_ble_eq_true rfl), (Nat.le_of_ble_eq_true rfl)⟩ (fun _ q => q) ?_
  exact r_icmp_eq (pc := 498) 1397 dL_law_498 (by decide) (fun _ => TL) (fun c => absurd rfl c)
set_option maxHeartbeats 4000000 in
theorem law_9 {L k : Nat} {xs : Nat → Int32} (hL : L ≤ 3072) (hk : 6 * k + 6 ≤ L) (TL : AW (fun X => X = some (L, xs)) room_1 mL_law 110 9819 1397 [some (.float 0), some (.ref 0), some (.ref (0 + 95)), some (.int (nI (6 * k)))] [] (WI 0 (k + 1)) (fun v _ => v = some (.int 1))) : AW (fun X => X = some (L, xs)) room_1 mL_law 110 9819 503 [some (.float 0), some (.ref 0), some (.ref (0 + 95)), some (.int (nI (6 * k)))] [] (WI 0 k) (fun v _ => v = some (.int 1)) := by
  refine r_aload_n (pc := 503) dL_law_503 rfl ?_
  refine r_aload_nX (pc := 504) dL_law_504 rfl ?_
  refine r_iload_n (pc := 505) dL_law_505 rfl ?_
  refine r_iconst (pc := 506) (v := 1) dL_law_506 (by decide) ?_
  refine r_iadd (pc := 507) dL_law_507 ?_
  refine r_sld (pc := 508) (j := 6 * k + 1) (fun _ q => q) dL_law_508 (ixs (j := 1) (by omega)) (by omega) ?_
  refine r_aload_nX (pc := 509) dL_law_509 rfl ?_
  refine r_iload_n (pc := 510) dL_law_510 rfl ?_
  refine r_iconst (pc := 511) (v := 2) dL_law_511 (by decide) ?_
  refine r_iadd (pc := 512) dL_law_512 ?_
  refine r_sld (pc := 513) (j := 6 * k + 2) (fun _ q => q) dL_law_513 (ixs (j := 2) (by omega)) (by omega) ?_
  refine r_aload_nX (pc := 514) dL_law_514 rfl ?_
  refine r_iload_n (pc := 515) dL_law_515 rfl ?_
  refine r_iconst (pc := 516) (v := 3) dL_law_516 (by decide) ?_
  refine r_iadd (pc := 517) dL_law_517 ?_
  refine r_sld (pc := 518) (j := 6 * k + 3) (fun _ q => q) dL_law_518 (ixs (j := 3) (by omega)) (by omega) ?_
  refine r_aload_nX (pc := 519) dL_law_519 rfl ?_
  refine r_iload_n (pc := 520) dL_law_520 rfl ?_
  refine r_iconst (pc := 521) (v := 4) dL_law_521 (by decide) ?_
  refine r_iadd (pc := 522) dL_law_522 ?_
  refine r_sld (pc := 523) (j := 6 * k + 4) (fun _ q => q) dL_law_523 (ixs (j := 4) (by omega)) (by omega) ?_
  refine r_PO (pc := 524) (μ' := mX11_law) (μm := mX12_law) dL_law_524 nL_54 iX11_law vX11_law kX11_law rfl rfl ⟨(Nat.le_of_ble_eq_true rfl), (Nat.le_of_ble_eq_true rfl)⟩ rfl ⟨(Nat.le_of_ble_eq_true rfl), (Nat.le_of_ble_eq_true rfl)⟩ (fun _ q => op_law q) (fun r => ?_)
  refine r_aload_n (pc := 527) dL_law_527 rfl ?_
  refine r_aload_nX (pc := 528) dL_law_528 rfl ?_
  refine r_iload_n (pc := 529) dL_law_529 rfl ?_
  refine r_iconst (pc := 530) (v := 1) dL_law_530 (by decide) ?_
  refine r_iadd (pc := 531) dL_law_531 ?_
  refine r_sld (pc := 532) (j := 6 * k + 1) (fun _ q => q) dL_law_532 (ixs (j := 1) (by omega)) (by omega) ?_
  refine r_aload_nX (pc := 533) dL_law_533 rfl ?_
  refine r_iload_n (pc := 534) dL_law_534 rfl ?_
  refine r_iconst (pc := 535) (v := 2) dL_law_535 (by decide) ?_
  refine r_iadd (pc := 536) dL_law_536 ?_
  refine r_sld (pc := 537) (j := 6 * k + 2) (fun _ q => q) dL_law_537 (ixs (j := 2) (by omega)) (by omega) ?_
  refine r_aload_nX (pc := 538) dL_law_538 rfl ?_
  refine r_iload_n (pc := 539) dL_law_539 rfl ?_
  refine r_iconst (pc := 540) (v := 3) dL_law_540 (by decide) ?_
  refine r_iadd (pc := 541) dL_law_541 ?_
  refine r_sld (pc := 542) (j := 6 * k + 3) (fun _ q => q) dL_law_542 (ixs (j := 3) (by omega)) (by omega) ?_
  refine r_aload_nX (pc := 543) dL_law_543 rfl ?_
  refine r_iload_n (pc := 544) dL_law_544 rfl ?_
  refine r_iconst (pc := 545) (v := 4) dL_law_545 (by decide) ?_
  refine r_iadd (pc := 546) dL_law_546 ?_
  refine r_sld (pc := 547) (j := 6 * k + 4) (fun _ q => q) dL_law_547 (ixs (j := 4) (by omega)) (by omega) ?_
  refine r_Vi (pc := 548) (μ' := mX12_law) (x := r) (P' := WI 0 (k + 1)) dL_law_548 nL_58 iX12_law vX12_law kX12_law rfl rfl ⟨(Nat.le_of_ble_eq_true rfl), (Nat.le_of_ble_eq_true rfl)⟩ rfl ⟨(Nat.le_of_ble_eq_true rfl), (Nat.le_of_ble_eq_true rfl)⟩ (fun _ q => q) ?_
  exact r_icmp_eq (pc := 551) 1397 dL_law_551 (by decide) (fun _ => TL) (fun c => absurd rfl c)
set_option maxHeartbeats 4000000 in
theorem law_10 {L k : Nat} {xs : Nat → Int32} (hL : L ≤ 3072) (hk : 6 * k + 6 ≤ L) (TL : AW (fun X => X = some (L, xs)) room_1 mL_law 110 9819 1397 [some (.float 0), some (.ref 0), some (.ref (0 + 95)), some (.int (nI (6 * k)))] [] (WI 0 (k + 1)) (fun v _ => v = some (.int 1))) : AW (fun X => X = some (L, xs)) room_1 mL_law 110 9819 556 [some (.float 0), some (.ref 0), some (.ref (0 + 95)), some (.int (nI (6 * k)))] [] (WI 0 k) (fun v _ => v = some (.int 1)) := by
  refine r_aload_n (pc := 556) dL_law_556 rfl ?_
  refine r_aload_nX (pc := 557) dL_law_557 rfl ?_
  refine r_iload_n (pc := 558) dL_law_558 rfl ?_
  refine r_iconst (pc := 559) (v := 1) dL_law_559 (by decide) ?_
  refine r_iadd (pc := 560) dL_law_560 ?_
  refine r_sld (pc := 561) (j := 6 * k + 1) (fun _ q => q) dL_law_561 (ixs (j := 1) (by omega)) (by omega) ?_
  refine r_aload_nX (pc := 562) dL_law_562 rfl ?_
  refine r_iload_n (pc := 563) dL_law_563 rfl ?_
  refine r_iconst (pc := 564) (v := 2) dL_law_564 (by decide) ?_
  refine r_iadd (pc := 565) dL_law_565 ?_
  refine r_sld (pc := 566) (j := 6 * k + 2) (fun _ q => q) dL_law_566 (ixs (j := 2) (by omega)) (by omega) ?_
  refine r_aload_nX (pc := 567) dL_law_567 rfl ?_
  refine r_iload_n (pc := 568) dL_law_568 rfl ?_
  refine r_iconst (pc := 569) (v := 3) dL_law_569 (by decide) ?_
  refine r_iadd (pc := 570) dL_law_570 ?_
  refine r_sld (pc := 571) (j := 6 * k + 3) (fun _ q => q) dL_law_571 (ixs (j := 3) (by omega)) (by omega) ?_
  refine r_PO (pc := 572) (μ' := mX11_roll) (μm := mX12_roll) dL_law_572 nL_59 iX11_roll vX11_roll kX11_roll rfl rfl ⟨(Nat.le_of_ble_eq_true rfl), (Nat.le_of_ble_eq_true rfl)⟩ rfl ⟨(Nat.le_of_ble_eq_true rfl), (Nat.le_of_ble_eq_true rfl)⟩ (fun _ q => op_roll q) (fun r => ?_)
  refine r_aload_n (pc := 575) dL_law_575 rfl ?_
  refine r_aload_nX (pc := 576) dL_law_576 rfl ?_
  refine r_iload_n (pc := 577) dL_law_577 rfl ?_
  refine r_iconst (pc := 578) (v := 1) dL_law_578 (by decide) ?_
  refine r_iadd (pc := 579) dL_law_579 ?_
  refine r_sld (pc := 580) (j := 6 * k + 1) (fun _ q => q) dL_law_580 (ixs (j := 1) (by omega)) (by omega) ?_
  refine r_aload_nX (pc := 581) dL_law_581 rfl ?_
  refine r_iload_n (pc := 582) dL_law_582 rfl ?_
  refine r_iconst (pc := 583) (v := 2) dL_law_583 (by decide) ?_
  refine r_iadd (pc := 584) dL_law_584 ?_
  refine r_sld (pc := 585) (j := 6 * k + 2) (fun _ q => q) dL_law_585 (ixs (j := 2) (by omega)) (by omega) ?_
  refine r_aload_nX (pc := 586) dL_law_586 rfl ?_
  refine r_iload_n (pc := 587) dL_law_587 rfl ?_
  refine r_iconst (pc := 588) (v := 3) dL_law_588 (by decide) ?_
  refine r_iadd (pc := 589) dL_law_589 ?_
  refine r_sld (pc := 590) (j := 6 * k + 3) (fun _ q => q) dL_law_590 (ixs (j := 3) (by omega)) (by omega) ?_
  refine r_Vi (pc := 591) (μ' := mX12_roll) (x := r) (P' := WI 0 (k + 1)) dL_law_591 nL_63 iX12_roll vX12_roll kX12_roll rfl rfl ⟨(Nat.le_of_ble_eq_true rfl), (Nat.le_of_ble_eq_true rfl)⟩ rfl ⟨(Nat.le_of_ble_eq_true rfl), (Nat.le_of_ble_eq_true rfl)⟩ (fun _ q => q) ?_
  exact r_icmp_eq (pc := 594) 1397 dL_law_594 (by decide) (fun _ => TL) (fun c => absurd rfl c)
set_option maxHeartbeats 4000000 in
theorem law_11 {L k : Nat} {xs : Nat → Int32} (hL : L ≤ 3072) (hk : 6 * k + 6 ≤ L) (TL : AW (fun X => X = some (L, xs)) room_1 mL_law 110 9819 1397 [some (.float 0), some (.ref 0), some (.ref (0 + 95)), some (.int (nI (6 * k)))] [] (WI 0 (k + 1)) (fun v _ => v = some (.int 1))) : AW (fun X => X = some (L, xs)) room_1 mL_law 110 9819 599 [some (.float 0), some (.ref 0), some (.ref (0 + 95)), some (.int (nI (6 * k)))] [] (WI 0 k) (fun v _ => v = some (.int 1)) := by
  refine r_aload_n (pc := 599) dL_law_599 rfl ?_
  refine r_aload_nX (pc := 600) dL_law_600 rfl ?_
  refine r_iload_n (pc := 601) dL_law_601 rfl ?_
  refine r_iconst (pc := 602) (v := 1) dL_law_602 (by decide) ?_
  refine r_iadd (pc := 603) dL_law_603 ?_
  refine r_sld (pc := 604) (j := 6 * k + 1) (fun _ q => q) dL_law_604 (ixs (j := 1) (by omega)) (by omega) ?_
  refine r_PO (pc := 605) (μ' := mX11_minutes) (μm := mX12_minutes) dL_law_605 nL_64 iX11_minutes vX11_minutes kX11_minutes rfl rfl ⟨(Nat.le_of_ble_eq_true rfl), (Nat.le_of_ble_eq_true rfl)⟩ rfl ⟨(Nat.le_of_ble_eq_true rfl), (Nat.le_of_ble_eq_true rfl)⟩ (fun _ q => op_minutes q) (fun r => ?_)
  refine r_aload_n (pc := 608) dL_law_608 rfl ?_
  refine r_aload_nX (pc := 609) dL_law_609 rfl ?_
  refine r_iload_n (pc := 610) dL_law_610 rfl ?_
  refine r_iconst (pc := 611) (v := 1) dL_law_611 (by decide) ?_
  refine r_iadd (pc := 612) dL_law_612 ?_
  refine r_sld (pc := 613) (j := 6 * k + 1) (fun _ q => q) dL_law_613 (ixs (j := 1) (by omega)) (by omega) ?_
  refine r_Vi (pc := 614) (μ' := mX12_minutes) (x := r) (P' := WI 0 (k + 1)) dL_law_614 nL_67 iX12_minutes vX12_minutes kX12_minutes rfl rfl ⟨(Nat.le_of_ble_eq_true rfl), (Nat.le_of_ble_eq_true rfl)⟩ rfl ⟨(Nat.le_of_ble_eq_true rfl), (Nat.le_of_ble_eq_true rfl)⟩ (fun _ q => q) ?_
  exact r_icmp_eq (pc := 617) 1397 dL_law_617 (by decide) (fun _ => TL) (fun c => absurd rfl c)
set_option maxHeartbeats 4000000 in
theorem law_12 {L k : Nat} {xs : Nat → Int32} (hL : L ≤ 3072) (hk : 6 * k + 6 ≤ L) (TL : AW (fun X => X = some (L, xs)) room_1 mL_law 110 9819 1397 [some (.float 0), some (.ref 0), some (.ref (0 + 95)), some (.int (nI (6 * k)))] [] (WI 0 (k + 1)) (fun v _ => v = some (.int 1))) : AW (fun X => X = some (L, xs)) room_1 mL_law 110 9819 622 [some (.float 0), some (.ref 0), some (.ref (0 + 95)), some (.int (nI (6 * k)))] [] (WI 0 k) (fun v _ => v = some (.int 1)) := by
  refine r_aload_n (pc := 622) dL_law_622 rfl ?_
  refine r_aload_nX (pc := 623) dL_law_623 rfl ?_
  refine r_iload_n (pc := 624) dL_law_624 rfl ?_
  refine r_iconst (pc := 625) (v := 1) dL_law_625 (by decide) ?_
  refine r_iadd (pc := 626) dL_law_626 ?_
  refine r_sld (pc := 627) (j := 6 * k + 1) (fun _ q => q) dL_law_627 (ixs (j := 1) (by omega)) (by omega) ?_
  refine r_PO (pc := 628) (μ' := mX11_days) (μm := mX12_days) dL_law_628 nL_68 iX11_days vX11_days kX11_days rfl rfl ⟨(Nat.le_of_ble_eq_true rfl), (Nat.le_of_ble_eq_true rfl)⟩ rfl ⟨(Nat.le_of_ble_eq_true rfl), (Nat.le_of_ble_eq_true rfl)⟩ (fun _ q => op_days q) (fun r => ?_)
  refine r_aload_n (pc := 631) dL_law_631 rfl ?_
  refine r_aload_nX (pc := 632) dL_law_632 rfl ?_
  refine r_iload_n (pc := 633) dL_law_633 rfl ?_
  refine r_iconst (pc := 634) (v := 1) dL_law_634 (by decide) ?_
  refine r_iadd (pc := 635) dL_law_635 ?_
  refine r_sld (pc := 636) (j := 6 * k + 1) (fun _ q => q) dL_law_636 (ixs (j := 1) (by omega)) (by omega) ?_
  refine r_Vi (pc := 637) (μ' := mX12_days) (x := r) (P' := WI 0 (k + 1)) dL_law_637 nL_71 iX12_days vX12_days kX12_days rfl rfl ⟨(Nat.le_of_ble_eq_true rfl), (Nat.le_of_ble_eq_true rfl)⟩ rfl ⟨(Nat.le_of_ble_eq_true rfl), (Nat.le_of_ble_eq_true rfl)⟩ (fun _ q => q) ?_
  exact r_icmp_eq (pc := 640) 1397 dL_law_640 (by decide) (fun _ => TL) (fun c => absurd rfl c)
set_option maxHeartbeats 4000000 in
theorem law_13 {L k : Nat} {xs : Nat → Int32} (hL : L ≤ 3072) (hk : 6 * k + 6 ≤ L) (TL : AW (fun X => X = some (L, xs)) room_1 mL_law 110 9819 1397 [some (.float 0), some (.ref 0), some (.ref (0 + 95)), some (.int (nI (6 * k)))] [] (WI 0 (k + 1)) (fun v _ => v = some (.int 1))) : AW (fun X => X = some (L, xs)) room_1 mL_law 110 9819 645 [some (.float 0), some (.ref 0), some (.ref (0 + 95)), some (.int (nI (6 * k)))] [] (WI 0 k) (fun v _ => v = some (.int 1)) := by
  refine r_aload_n (pc := 645) dL_law_645 rfl ?_
  refine r_aload_nX (pc := 646) dL_law_646 rfl ?_
  refine r_iload_n (pc := 647) dL_law_647 rfl ?_
  refine r_iconst (pc := 648) (v := 1) dL_law_648 (by decide) ?_
  refine r_iadd (pc := 649) dL_law_649 ?_
  refine r_sld (pc := 650) (j := 6 * k + 1) (fun _ q => q) dL_law_650 (ixs (j := 1) (by omega)) (by omega) ?_
  refine r_PO (pc := 651) (μ' := mX11_seams) (μm := mX12_seams) dL_law_651 nL_72 iX11_seams vX11_seams kX11_seams rfl rfl ⟨(Nat.le_of_ble_eq_true rfl), (Nat.le_of_ble_eq_true rfl)⟩ rfl ⟨(Nat.le_of_ble_eq_true rfl), (Nat.le_of_ble_eq_true rfl)⟩ (fun _ q => op_seams q) (fun r => ?_)
  refine r_aload_n (pc := 654) dL_law_654 rfl ?_
  refine r_aload_nX (pc := 655) dL_law_655 rfl ?_
  refine r_iload_n (pc := 656) dL_law_656 rfl ?_
  refine r_iconst (pc := 657) (v := 1) dL_law_657 (by decide) ?_
  refine r_iadd (pc := 658) dL_law_658 ?_
  refine r_sld (pc := 659) (j := 6 * k + 1) (fun _ q => q) dL_law_659 (ixs (j := 1) (by omega)) (by omega) ?_
  refine r_Vi (pc := 660) (μ' := mX12_seams) (x := r) (P' := WI 0 (k + 1)) dL_law_660 nL_75 iX12_seams vX12_seams kX12_seams rfl rfl ⟨(Nat.le_of_ble_eq_true rfl), (Nat.le_of_ble_eq_true rfl)⟩ rfl ⟨(Nat.le_of_ble_eq_true rfl), (Nat.le_of_ble_eq_true rfl)⟩ (fun _ q => q) ?_
  exact r_icmp_eq (pc := 663) 1397 dL_law_663 (by decide) (fun _ => TL) (fun c => absurd rfl c)
set_option maxHeartbeats 4000000 in
theorem law_14 {L k : Nat} {xs : Nat → Int32} (hL : L ≤ 3072) (hk : 6 * k + 6 ≤ L) (TL : AW (fun X => X = some (L, xs)) room_1 mL_law 110 9819 1397 [some (.float 0), some (.ref 0), some (.ref (0 + 95)), some (.int (nI (6 * k)))] [] (WI 0 (k + 1)) (fun v _ => v = some (.int 1))) : AW (fun X => X = some (L, xs)) room_1 mL_law 110 9819 668 [some (.float 0), some (.ref 0), some (.ref (0 + 95)), some (.int (nI (6 * k)))] [] (WI 0 k) (fun v _ => v = some (.int 1)) := by
  refine r_aload_n (pc := 668) dL_law_668 rfl ?_
  refine r_aload_nX (pc := 669) dL_law_669 rfl ?_
  refine r_iload_n (pc := 670) dL_law_670 rfl ?_
  refine r_iconst (pc := 671) (v := 1) dL_law_671 (by decide) ?_
  refine r_iadd (pc := 672) dL_law_672 ?_
  refine r_sld (pc := 673) (j := 6 * k + 1) (fun _ q => q) dL_law_673 (ixs (j := 1) (by omega)) (by omega) ?_
  refine r_aload_nX (pc := 674) dL_law_674 rfl ?_
  refine r_iload_n (pc := 675) dL_law_675 rfl ?_
  refine r_iconst (pc := 676) (v := 2) dL_law_676 (by decide) ?_
  refine r_iadd (pc := 677) dL_law_677 ?_
  refine r_sld (pc := 678) (j := 6 * k + 2) (fun _ q => q) dL_law_678 (ixs (j := 2) (by omega)) (by omega) ?_
  refine r_PO (pc := 679) (μ' := mX11_done) (μm := mX12_done) dL_law_679 nL_76 iX11_done vX11_done kX11_done rfl rfl ⟨(Nat.le_of_ble_eq_true rfl), (Nat.le_of_ble_eq_true rfl)⟩ rfl ⟨(Nat.le_of_ble_eq_true rfl), (Nat.le_of_ble_eq_true rfl)⟩ (fun _ q => op_done q) (fun r => ?_)
  refine r_aload_n (pc := 682) dL_law_682 rfl ?_
  refine r_aload_nX (pc := 683) dL_law_683 rfl ?_
  refine r_iload_n (pc := 684) dL_law_684 rfl ?_
  refine r_iconst (pc := 685) (v := 1) dL_law_685 (by decide) ?_
  refine r_iadd (pc := 686) dL_law_686 ?_
  refine r_sld (pc := 687) (j := 6 * k + 1) (fun _ q => q) dL_law_687 (ixs (j := 1) (by omega)) (by omega) ?_
  refine r_aload_nX (pc := 688) dL_law_688 rfl ?_
  refine r_iload_n (pc := 689) dL_law_689 rfl ?_
  refine r_iconst (pc := 690) (v := 2) dL_law_690 (by decide) ?_
  refine r_iadd (pc := 691) dL_law_691 ?_
  refine r_sld (pc := 692) (j := 6 * k + 2) (fun _ q => q) dL_law_692 (ixs (j := 2) (by omega)) (by omega) ?_
  refine r_Vi (pc := 693) (μ' := mX12_done) (x := r) (P' := WI 0 (k + 1)) dL_law_693 nL_79 iX12_done vX12_done kX12_done rfl rfl ⟨(Nat.le_of_ble_eq_true rfl), (Nat.le_of_ble_eq_true rfl)⟩ rfl ⟨(Nat.le_of_ble_eq_true rfl), (Nat.le_of_ble_eq_true rfl)⟩ (fun _ q => q) ?_
  exact r_icmp_eq (pc := 696) 1397 dL_law_696 (by decide) (fun _ => TL) (fun c => absurd rfl c)
set_option maxHeartbeats 4000000 in
theorem law_15 {L k : Nat} {xs : Nat → Int32} (hL : L ≤ 3072) (hk : 6 * k + 6 ≤ L) (TL : AW (fun X => X = some (L, xs)) room_1 mL_law 110 9819 1397 [some (.float 0), some (.ref 0), some (.ref (0 + 95)), some (.int (nI (6 * k)))] [] (WI 0 (k + 1)) (fun v _ => v = some (.int 1))) : AW (fun X => X = some (L, xs)) room_1 mL_law 110 9819 701 [some (.float 0), some (.ref 0), some (.ref (0 + 95)), some (.int (nI (6 * k)))] [] (WI 0 k) (fun v _ => v = some (.int 1)) := by
  refine r_aload_n (pc := 701) dL_law_701 rfl ?_
  refine r_aload_nX (pc := 702) dL_law_702 rfl ?_
  refine r_iload_n (pc := 703) dL_law_703 rfl ?_
  refine r_iconst (pc := 704) (v := 1) dL_law_704 (by decide) ?_
  refine r_iadd (pc := 705) dL_law_705 ?_
  refine r_sld (pc := 706) (j := 6 * k + 1) (fun _ q => q) dL_law_706 (ixs (j := 1) (by omega)) (by omega) ?_
  refine r_aload_nX (pc := 707) dL_law_707 rfl ?_
  refine r_iload_n (pc := 708) dL_law_708 rfl ?_
  refine r_iconst (pc := 709) (v := 2) dL_law_709 (by decide) ?_
  refine r_iadd (pc := 710) dL_law_710 ?_
  refine r_sld (pc := 711) (j := 6 * k + 2) (fun _ q => q) dL_law_711 (ixs (j := 2) (by omega)) (by omega) ?_
  refine r_PO (pc := 712) (μ' := mX11_order) (μm := mX12_order) dL_law_712 nL_80 iX11_order vX11_order kX11_order rfl rfl ⟨(Nat.le_of_ble_eq_true rfl), (Nat.le_of_ble_eq_true rfl)⟩ rfl ⟨(Nat.le_of_ble_eq_true rfl), (Nat.le_of_ble_eq_true rfl)⟩ (fun _ q => op_order q) (fun r => ?_)
  refine r_aload_n (pc := 715) dL_law_715 rfl ?_
  refine r_aload_nX (pc := 716) dL_law_716 rfl ?_
  refine r_iload_n (pc := 717) dL_law_717 rfl ?_
  refine r_iconst (pc := 718) (v := 1) dL_law_718 (by decide) ?_
  refine r_iadd (pc := 719) dL_law_719 ?_
  refine r_sld (pc := 720) (j := 6 * k + 1) (fun _ q => q) dL_law_720 (ixs (j := 1) (by omega)) (by omega) ?_
  refine r_aload_nX (pc := 721) dL_law_721 rfl ?_
  refine r_iload_n (pc := 722) dL_law_722 rfl ?_
  refine r_iconst (pc := 723) (v := 2) dL_law_723 (by decide) ?_
  refine r_iadd (pc := 724) dL_law_724 ?_
  refine r_sld (pc := 725) (j := 6 * k + 2) (fun _ q => q) dL_law_725 (ixs (j := 2) (by omega)) (by omega) ?_
  refine r_Vi (pc := 726) (μ' := mX12_order) (x := r) (P' := WI 0 (k + 1)) dL_law_726 nL_83 iX12_order vX12_order kX12_order rfl rfl ⟨(Nat.le_of_ble_eq_true rfl), (Nat.le_of_ble_eq_true rfl)⟩ rfl ⟨(Nat.le_of_ble_eq_true rfl), (Nat.le_of_ble_eq_true rfl)⟩ (fun _ q => q) ?_
  exact r_icmp_eq (pc := 729) 1397 dL_law_729 (by decide) (fun _ => TL) (fun c => absurd rfl c)
set_option maxHeartbeats 4000000 in
theorem law_16 {L k : Nat} {xs : Nat → Int32} (hL : L ≤ 3072) (hk : 6 * k + 6 ≤ L) (TL : AW (fun X => X = some (L, xs)) room_1 mL_law 110 9819 1397 [some (.float 0), some (.ref 0), some (.ref (0 + 95)), some (.int (nI (6 * k)))] [] (WI 0 (k + 1)) (fun v _ => v = some (.int 1))) : AW (fun X => X = some (L, xs)) room_1 mL_law 110 9819 734 [some (.float 0), some (.ref 0), some (.ref (0 + 95)), some (.int (nI (6 * k)))] [] (WI 0 k) (fun v _ => v = some (.int 1)) := by
  refine r_aload_n (pc := 734) dL_law_734 rfl ?_
  refine r_aload_nX (pc := 735) dL_law_735 rfl ?_
  refine r_iload_n (pc := 736) dL_law_736 rfl ?_
  refine r_iconst (pc := 737) (v := 1) dL_law_737 (by decide) ?_
  refine r_iadd (pc := 738) dL_law_738 ?_
  refine r_sld (pc := 739) (j := 6 * k + 1) (fun _ q => q) dL_law_739 (ixs (j := 1) (by omega)) (by omega) ?_
  refine r_aload_nX (pc := 740) dL_law_740 rfl ?_
  refine r_iload_n (pc := 741) dL_law_741 rfl ?_
  refine r_iconst (pc := 742) (v := 2) dL_law_742 (by decide) ?_
  refine r_iadd (pc := 743) dL_law_743 ?_
  refine r_sld (pc := 744) (j := 6 * k + 2) (fun _ q => q) dL_law_744 (ixs (j := 2) (by omega)) (by omega) ?_
  refine r_PO (pc := 745) (μ' := mX11_clean) (μm := mX12_clean) dL_law_745 nL_84 iX11_clean vX11_clean kX11_clean rfl rfl ⟨(Nat.le_of_ble_eq_true rfl), (Nat.le_of_ble_eq_true rfl)⟩ rfl ⟨(Nat.le_of_ble_eq_true rfl), (Nat.le_of_ble_eq_true rfl)⟩ (fun _ q => op_clean q) (fun r => ?_)
  refine r_aload_n (pc := 748) dL_law_748 rfl ?_
  refine r_aload_nX (pc := 749) dL_law_749 rfl ?_
  refine r_iload_n (pc := 750) dL_law_750 rfl ?_
  refine r_iconst (pc := 751) (v := 1) dL_law_751 (by decide) ?_
  refine r_iadd (pc := 752) dL_law_752 ?_
  refine r_sld (pc := 753) (j := 6 * k + 1) (fun _ q => q) dL_law_753 (ixs (j := 1) (by omega)) (by omega) ?_
  refine r_aload_nX (pc := 754) dL_law_754 rfl ?_
  refine r_iload_n (pc := 755) dL_law_755 rfl ?_
  refine r_iconst (pc := 756) (v := 2) dL_law_756 (by decide) ?_
  refine r_iadd (pc := 757) dL_law_757 ?_
  refine r_sld (pc := 758) (j := 6 * k + 2) (fun _ q => q) dL_law_758 (ixs (j := 2) (by omega)) (by omega) ?_
  refine r_Vi (pc := 759) (μ' := mX12_clean) (x := r) (P' := WI 0 (k + 1)) dL_law_759 nL_87 iX12_clean vX12_clean kX12_clean rfl rfl ⟨(Nat.le_of_ble_eq_true rfl), (Nat.le_of_ble_eq_true rfl)⟩ rfl ⟨(Nat.le_of_ble_eq_true rfl), (Nat.le_of_ble_eq_true rfl)⟩ (fun _ q => q) ?_
  exact r_icmp_eq (pc := 762) 1397 dL_law_762 (by decide) (fun _ => TL) (fun c => absurd rfl c)
set_option maxHeartbeats 4000000 in
theorem law_17 {L k : Nat} {xs : Nat → Int32} (hL : L ≤ 3072) (hk : 6 * k + 6 ≤ L) (TL : AW (fun X => X = some (L, xs)) room_1 mL_law 110 9819 1397 [some (.float 0), some (.ref 0), some (.ref (0 + 95)), some (.int (nI (6 * k)))] [] (WI 0 (k + 1)) (fun v _ => v = some (.int 1))) : AW (fun X => X = some (L, xs)) room_1 mL_law 110 9819 767 [some (.float 0), some (.ref 0), some (.ref (0 + 95)), some (.int (nI (6 * k)))] [] (WI 0 k) (fun v _ => v = some (.int 1)) := by
  refine r_aload_n (pc := 767) dL_law_767 rfl ?_
  refine r_aload_nX (pc := 768) dL_law_768 rfl ?_
  refine r_iload_n (pc := 769) dL_law_769 rfl ?_
  refine r_iconst (pc := 770) (v := 1) dL_law_770 (by decide) ?_
  refine r_iadd (pc := 771) dL_law_771 ?_
  refine r_sld (pc := 772) (j := 6 * k + 1) (fun _ q => q) dL_law_772 (ixs (j := 1) (by omega)) (by omega) ?_
  refine r_aload_nX (pc := 773) dL_law_773 rfl ?_
  refine r_iload_n (pc := 774) dL_law_774 rfl ?_
  refine r_iconst (pc := 775) (v := 2) dL_law_775 (by decide) ?_
  refine r_iadd (pc := 776) dL_law_776 ?_
  refine r_sld (pc := 777) (j := 6 * k + 2) (fun _ q => q) dL_law_777 (ixs (j := 2) (by omega)) (by omega) ?_
  refine r_aload_nX (pc := 778) dL_law_778 rfl ?_
  refine r_iload_n (pc := 779) dL_law_779 rfl ?_
  refine r_iconst (pc := 780) (v := 3) dL_law_780 (by decide) ?_
  refine r_iadd (pc := 781) dL_law_781 ?_
  refine r_sld (pc := 782) (j := 6 * k + 3) (fun _ q => q) dL_law_782 (ixs (j := 3) (by omega)) (by omega) ?_
  refine r_PO (pc := 783) (μ' := mX11_called) (μm := mX12_called) dL_law_783 nL_88 iX11_called vX11_called kX11_called rfl rfl ⟨(Nat.le_of_ble_eq_true rfl), (Nat.le_of_ble_eq_true rfl)⟩ rfl ⟨(Nat.le_of_ble_eq_true rfl), (Nat.le_of_ble_eq_true rfl)⟩ (fun _ q => op_called q) (fun r => ?_)
  refine r_aload_n (pc := 786) dL_law_786 rfl ?_
  refine r_aload_nX (pc := 787) dL_law_787 rfl ?_
  refine r_iload_n (pc := 788) dL_law_788 rfl ?_
  refine r_iconst (pc := 789) (v := 1) dL_law_789 (by decide) ?_
  refine r_iadd (pc := 790) dL_law_790 ?_
  refine r_sld (pc := 791) (j := 6 * k + 1) (fun _ q => q) dL_law_791 (ixs (j := 1) (by omega)) (by omega) ?_
  refine r_aload_nX (pc := 792) dL_law_792 rfl ?_
  refine r_iload_n (pc := 793) dL_law_793 rfl ?_
  refine r_iconst (pc := 794) (v := 2) dL_law_794 (by decide) ?_
  refine r_iadd (pc := 795) dL_law_795 ?_
  refine r_sld (pc := 796) (j := 6 * k + 2) (fun _ q => q) dL_law_796 (ixs (j := 2) (by omega)) (by omega) ?_
  refine r_aload_nX (pc := 797) dL_law_797 rfl ?_
  refine r_iload_n (pc := 798) dL_law_798 rfl ?_
  refine r_iconst (pc := 799) (v := 3) dL_law_799 (by decide) ?_
  refine r_iadd (pc := 800) dL_law_800 ?_
  refine r_sld (pc := 801) (j := 6 * k + 3) (fun _ q => q) dL_law_801 (ixs (j := 3) (by omega)) (by omega) ?_
  refine r_Vi (pc := 802) (μ' := mX12_called) (x := r) (P' := WI 0 (k + 1)) dL_law_802 nL_91 iX12_called vX12_called kX12_called rfl rfl ⟨(Nat.le_of_ble_eq_true rfl), (Nat.le_of_ble_eq_true rfl)⟩ rfl ⟨(Nat.le_of_ble_eq_true rfl), (Nat.le_of_ble_eq_true rfl)⟩ (fun _ q => q) ?_
  exact r_icmp_eq (pc := 805) 1397 dL_law_805 (by decide) (fun _ => TL) (fun c => absurd rfl c)
set_option maxHeartbeats 4000000 in
theorem law_18 {L k : Nat} {xs : Nat → Int32} (hL : L ≤ 3072) (hk : 6 * k + 6 ≤ L) (TL : AW (fun X => X = some (L, xs)) room_1 mL_law 110 9819 1397 [some (.float 0), some (.ref 0), some (.ref (0 + 95)), some (.int (nI (6 * k)))] [] (WI 0 (k + 1)) (fun v _ => v = some (.int 1))) : AW (fun X => X = some (L, xs)) room_1 mL_law 110 9819 810 [some (.float 0), some (.ref 0), some (.ref (0 + 95)), some (.int (nI (6 * k)))] [] (WI 0 k) (fun v _ => v = some (.int 1)) := by
  refine r_aload_n (pc := 810) dL_law_810 rfl ?_
  refine r_aload_nX (pc := 811) dL_law_811 rfl ?_
  refine r_iload_n (pc := 812) dL_law_812 rfl ?_
  refine r_iconst (pc := 813) (v := 1) dL_law_813 (by decide) ?_
  refine r_iadd (pc := 814) dL_law_814 ?_
  refine r_sld (pc := 815) (j := 6 * k + 1) (fun _ q => q) dL_law_815 (ixs (j := 1) (by omega)) (by omega) ?_
  refine r_aload_nX (pc := 816) dL_law_816 rfl ?_
  refine r_iload_n (pc := 817) dL_law_817 rfl ?_
  refine r_iconst (pc := 818) (v := 2) dL_law_818 (by decide) ?_
  refine r_iadd (pc := 819) dL_law_819 ?_
  refine r_sld (pc := 820) (j := 6 * k + 2) (fun _ q => q) dL_law_820 (ixs (j := 2) (by omega)) (by omega) ?_
  refine r_aload_nX (pc := 821) dL_law_821 rfl ?_
  refine r_iload_n (pc := 822) dL_law_822 rfl ?_
  refine r_iconst (pc := 823) (v := 3) dL_law_823 (by decide) ?_
  refine r_iadd (pc := 824) dL_law_824 ?_
  refine r_sld (pc := 825) (j := 6 * k + 3) (fun _ q => q) dL_law_825 (ixs (j := 3) (by omega)) (by omega) ?_
  refine r_PO (pc := 826) (μ' := mX11_worst) (μm := mX12_worst) dL_law_826 nL_92 iX11_worst vX11_worst kX11_worst rfl rfl ⟨(Nat.le_of_ble_eq_true rfl), (Nat.le_of_ble_eq_true rfl)⟩ rfl ⟨(Nat.le_of_ble_eq_true rfl), (Nat.le_of_ble_eq_true rfl)⟩ (fun _ q => op_worst q) (fun r => ?_)
  refine r_aload_n (pc := 829) dL_law_829 rfl ?_
  refine r_aload_nX (pc := 830) dL_law_830 rfl ?_
  refine r_iload_n (pc := 831) dL_law_831 rfl ?_
  refine r_iconst (pc := 832) (v := 1) dL_law_832 (by decide) ?_
  refine r_iadd (pc := 833) dL_law_833 ?_
  refine r_sld (pc := 834) (j := 6 * k + 1) (fun _ q => q) dL_law_834 (ixs (j := 1) (by omega)) (by omega) ?_
  refine r_aload_nX (pc := 835) dL_law_835 rfl ?_
  refine r_iload_n (pc := 836) dL_law_836 rfl ?_
  refine r_iconst (pc := 837) (v := 2) dL_law_837 (by decide) ?_
  refine r_iadd (pc := 838) dL_law_838 ?_
  refine r_sld (pc := 839) (j := 6 * k + 2) (fun _ q => q) dL_law_839 (ixs (j := 2) (by omega)) (by omega) ?_
  refine r_aload_nX (pc := 840) dL_law_840 rfl ?_
  refine r_iload_n (pc := 841) dL_law_841 rfl ?_
  refine r_iconst (pc := 842) (v := 3) dL_law_842 (by decide) ?_
  refine r_iadd (pc := 843) dL_law_843 ?_
  refine r_sld (pc := 844) (j := 6 * k + 3) (fun _ q => q) dL_law_844 (ixs (j := 3) (by omega)) (by omega) ?_
  refine r_Vi (pc := 845) (μ' := mX12_worst) (x := r) (P' := WI 0 (k + 1)) dL_law_845 nL_95 iX12_worst vX12_worst kX12_worst rfl rfl ⟨(Nat.le_of_ble_eq_true rfl), (Nat.le_of_ble_eq_true rfl)⟩ rfl ⟨(Nat.le_of_ble_eq_true rfl), (Nat.le_of_ble_eq_true rfl)⟩ (fun _ q => q) ?_
  exact r_icmp_eq (pc := 848) 1397 dL_law_848 (by decide) (fun _ => TL) (fun c => absurd rfl c)
set_option maxHeartbeats 4000000 in
theorem law_19 {L k : Nat} {xs : Nat → Int32} (hL : L ≤ 3072) (hk : 6 * k + 6 ≤ L) (TL : AW (fun X => X = some (L, xs)) room_1 mL_law 110 9819 1397 [some (.float 0), some (.ref 0), some (.ref (0 + 95)), some (.int (nI (6 * k)))] [] (WI 0 (k + 1)) (fun v _ => v = some (.int 1))) : AW (fun X => X = some (L, xs)) room_1 mL_law 110 9819 853 [some (.float 0), some (.ref 0), some (.ref (0 + 95)), some (.int (nI (6 * k)))] [] (WI 0 k) (fun v _ => v = some (.int 1)) := by
  refine r_aload_n (pc := 853) dL_law_853 rfl ?_
  refine r_aload_nX (pc := 854) dL_law_854 rfl ?_
  refine r_iload_n (pc := 855) dL_law_855 rfl ?_
  refine r_iconst (pc := 856) (v := 1) dL_law_856 (by decide) ?_
  refine r_iadd (pc := 857) dL_law_857 ?_
  refine r_sld (pc := 858) (j := 6 * k + 1) (fun _ q => q) dL_law_858 (ixs (j := 1) (by omega)) (by omega) ?_
  refine r_aload_nX (pc := 859) dL_law_859 rfl ?_
  refine r_iload_n (pc := 860) dL_law_860 rfl ?_
  refine r_iconst (pc := 861) (v := 2) dL_law_861 (by decide) ?_
  refine r_iadd (pc := 862) dL_law_862 ?_
  refine r_sld (pc := 863) (j := 6 * k + 2) (fun _ q => q) dL_law_863 (ixs (j := 2) (by omega)) (by omega) ?_
  refine r_PO (pc := 864) (μ' := mX11_howLong) (μm := mX12_howLong) dL_law_864 nL_96 iX11_howLong vX11_howLong kX11_howLong rfl rfl ⟨(Nat.le_of_ble_eq_true rfl), (Nat.le_of_ble_eq_true rfl)⟩ rfl ⟨(Nat.le_of_ble_eq_true rfl), (Nat.le_of_ble_eq_true rfl)⟩ (fun _ q => op_howLong q) (fun r => ?_)
  refine r_aload_n (pc := 867) dL_law_867 rfl ?_
  refine r_aload_nX (pc := 868) dL_law_868 rfl ?_
  refine r_iload_n (pc := 869) dL_law_869 rfl ?_
  refine r_iconst (pc := 870) (v := 1) dL_law_870 (by decide) ?_
  refine r_iadd (pc := 871) dL_law_871 ?_
  refine r_sld (pc := 872) (j := 6 * k + 1) (fun _ q => q) dL_law_872 (ixs (j := 1) (by omega)) (by omega) ?_
  refine r_aload_nX (pc := 873) dL_law_873 rfl ?_
  refine r_iload_n (pc := 874) dL_law_874 rfl ?_
  refine r_iconst (pc := 875) (v := 2) dL_law_875 (by decide) ?_
  refine r_iadd (pc := 876) dL_law_876 ?_
  refine r_sld (pc := 877) (j := 6 * k + 2) (fun _ q => q) dL_law_877 (ixs (j := 2) (by omega)) (by omega) ?_
  refine r_Vi (pc := 878) (μ' := mX12_howLong) (x := r) (P' := WI 0 (k + 1)) dL_law_878 nL_99 iX12_howLong vX12_howLong kX12_howLong rfl rfl ⟨(Nat.le_of_ble_eq_true rfl), (Nat.le_of_ble_eq_true rfl)⟩ rfl ⟨(Nat.le_of_ble_eq_true rfl), (Nat.le_of_ble_eq_true rfl)⟩ (fun _ q => q) ?_
  exact r_icmp_eq (pc := 881) 1397 dL_law_881 (by decide) (fun _ => TL) (fun c => absurd rfl c)
set_option maxHeartbeats 4000000 in
theorem law_20 {L k : Nat} {xs : Nat → Int32} (hL : L ≤ 3072) (hk : 6 * k + 6 ≤ L) (TL : AW (fun X => X = some (L, xs)) room_1 mL_law 110 9819 1397 [some (.float 0), some (.ref 0), some (.ref (0 + 95)), some (.int (nI (6 * k)))] [] (WI 0 (k + 1)) (fun v _ => v = some (.int 1))) : AW (fun X => X = some (L, xs)) room_1 mL_law 110 9819 886 [some (.float 0), some (.ref 0), some (.ref (0 + 95)), some (.int (nI (6 * k)))] [] (WI 0 k) (fun v _ => v = some (.int 1)) := by
  refine r_aload_n (pc := 886) dL_law_886 rfl ?_
  refine r_aload_nX (pc := 887) dL_law_887 rfl ?_
  refine r_iload_n (pc := 888) dL_law_888 rfl ?_
  refine r_iconst (pc := 889) (v := 1) dL_law_889 (by decide) ?_
  refine r_iadd (pc := 890) dL_law_890 ?_
  refine r_sld (pc := 891) (j := 6 * k + 1) (fun _ q => q) dL_law_891 (ixs (j := 1) (by omega)) (by omega) ?_
  refine r_PO (pc := 892) (μ' := mX11_cans) (μm := mX12_cans) dL_law_892 nL_100 iX11_cans vX11_cans kX11_cans rfl rfl ⟨(Nat.le_of_ble_eq_true rfl), (Nat.le_of_ble_eq_true rfl)⟩ rfl ⟨(Nat.le_of_ble_eq_true rfl), (Nat.le_of_ble_eq_true rfl)⟩ (fun _ q => op_cans q) (fun r => ?_)
  refine r_aload_n (pc := 895) dL_law_895 rfl ?_
  refine r_aload_nX (pc := 896) dL_law_896 rfl ?_
  refine r_iload_n (pc := 897) dL_law_897 rfl ?_
  refine r_iconst (pc := 898) (v := 1) dL_law_898 (by decide) ?_
  refine r_iadd (pc := 899) dL_law_899 ?_
  refine r_sld (pc := 900) (j := 6 * k + 1) (fun _ q => q) dL_law_900 (ixs (j := 1) (by omega)) (by omega) ?_
  refine r_Vi (pc := 901) (μ' := mX12_cans) (x := r) (P' := WI 0 (k + 1)) dL_law_901 nL_103 iX12_cans vX12_cans kX12_cans rfl rfl ⟨(Nat.le_of_ble_eq_true rfl), (Nat.le_of_ble_eq_true rfl)⟩ rfl ⟨(Nat.le_of_ble_eq_true rfl), (Nat.le_of_ble_eq_true rfl)⟩ (fun _ q => q) ?_
  exact r_icmp_eq (pc := 904) 1397 dL_law_904 (by decide) (fun _ => TL) (fun c => absurd rfl c)
set_option maxHeartbeats 4000000 in
theorem law_21 {L k : Nat} {xs : Nat → Int32} (hL : L ≤ 3072) (hk : 6 * k + 6 ≤ L) (TL : AW (fun X => X = some (L, xs)) room_1 mL_law 110 9819 1397 [some (.float 0), some (.ref 0), some (.ref (0 + 95)), some (.int (nI (6 * k)))] [] (WI 0 (k + 1)) (fun v _ => v = some (.int 1))) : AW (fun X => X = some (L, xs)) room_1 mL_law 110 9819 909 [some (.float 0), some (.ref 0), some (.ref (0 + 95)), some (.int (nI (6 * k)))] [] (WI 0 k) (fun v _ => v = some (.int 1)) := by
  refine r_aload_n (pc := 909) dL_law_909 rfl ?_
  refine r_aload_nX (pc := 910) dL_law_910 rfl ?_
  refine r_iload_n (pc := 911) dL_law_911 rfl ?_
  refine r_iconst (pc := 912) (v := 1) dL_law_912 (by decide) ?_
  refine r_iadd (pc := 913) dL_law_913 ?_
  refine r_sld (pc := 914) (j := 6 * k + 1) (fun _ q => q) dL_law_914 (ixs (j := 1) (by omega)) (by omega) ?_
  refine r_aload_nX (pc := 915) dL_law_915 rfl ?_
  refine r_iload_n (pc := 916) dL_law_916 rfl ?_
  refine r_iconst (pc := 917) (v := 2) dL_law_917 (by decide) ?_
  refine r_iadd (pc := 918) dL_law_918 ?_
  refine r_sld (pc := 919) (j := 6 * k + 2) (fun _ q => q) dL_law_919 (ixs (j := 2) (by omega)) (by omega) ?_
  refine r_aload_nX (pc := 920) dL_law_920 rfl ?_
  refine r_iload_n (pc := 921) dL_law_921 rfl ?_
  refine r_iconst (pc := 922) (v := 3) dL_law_922 (by decide) ?_
  refine r_iadd (pc := 923) dL_law_923 ?_
  refine r_sld (pc := 924) (j := 6 * k + 3) (fun _ q => q) dL_law_924 (ixs (j := 3) (by omega)) (by omega) ?_
  refine r_PO (pc := 925) (μ' := mX11_whose) (μm := mX12_whose) dL_law_925 nL_104 iX11_whose vX11_whose kX11_whose rfl rfl ⟨(Nat.le_of_ble_eq_true rfl), (Nat.le_of_ble_eq_true rfl)⟩ rfl ⟨(Nat.le_of_ble_eq_true rfl), (Nat.le_of_ble_eq_true rfl)⟩ (fun _ q => op_whose q) (fun r => ?_)
  refine r_aload_n (pc := 928) dL_law_928 rfl ?_
  refine r_aload_nX (pc := 929) dL_law_929 rfl ?_
  refine r_iload_n (pc := 930) dL_law_930 rfl ?_
  refine r_iconst (pc := 931) (v := 1) dL_law_931 (by decide) ?_
  refine r_iadd (pc := 932) dL_law_932 ?_
  refine r_sld (pc := 933) (j := 6 * k + 1) (fun _ q => q) dL_law_933 (ixs (j := 1) (by omega)) (by omega) ?_
  refine r_aload_nX (pc := 934) dL_law_934 rfl ?_
  refine r_iload_n (pc := 935) dL_law_935 rfl ?_
  refine r_iconst (pc := 936) (v := 2) dL_law_936 (by decide) ?_
  refine r_iadd (pc := 937) dL_law_937 ?_
  refine r_sld (pc := 938) (j := 6 * k + 2) (fun _ q => q) dL_law_938 (ixs (j := 2) (by omega)) (by omega) ?_
  refine r_aload_nX (pc := 939) dL_law_939 rfl ?_
  refine r_iload_n (pc := 940) dL_law_940 rfl ?_
  refine r_iconst (pc := 941) (v := 3) dL_law_941 (by decide) ?_
  refine r_iadd (pc := 942) dL_law_942 ?_
  refine r_sld (pc := 943) (j := 6 * k + 3) (fun _ q => q) dL_law_943 (ixs (j := 3) (by omega)) (by omega) ?_
  refine r_Vi (pc := 944) (μ' := mX12_whose) (x := r) (P' := WI 0 (k + 1)) dL_law_944 nL_107 iX12_whose vX12_whose kX12_whose rfl rfl ⟨(Nat.le_of_ble_eq_true rfl), (Nat.le_of_ble_eq_true rfl)⟩ rfl ⟨(Nat.le_of_ble_eq_true rfl), (Nat.le_of_ble_eq_true rfl)⟩ (fun _ q => q) ?_
  exact r_icmp_eq (pc := 947) 1397 dL_law_947 (by decide) (fun _ => TL) (fun c => absurd rfl c)
set_option maxHeartbeats 4000000 in
theorem law_22 {L k : Nat} {xs : Nat → Int32} (hL : L ≤ 3072) (hk : 6 * k + 6 ≤ L) (TL : AW (fun X => X = some (L, xs)) room_1 mL_law 110 9819 1397 [some (.float 0), some (.ref 0), some (.ref (0 + 95)), some (.int (nI (6 * k)))] [] (WI 0 (k + 1)) (fun v _ => v = some (.int 1))) : AW (fun X => X = some (L, xs)) room_1 mL_law 110 9819 952 [some (.float 0), some (.ref 0), some (.ref (0 + 95)), some (.int (nI (6 * k)))] [] (WI 0 k) (fun v _ => v = some (.int 1)) := by
  refine r_aload_n (pc := 952) dL_law_952 rfl ?_
  refine r_aload_nX (pc := 953) dL_law_953 rfl ?_
  refine r_iload_n (pc := 954) dL_law_954 rfl ?_
  refine r_iconst (pc := 955) (v := 1) dL_law_955 (by decide) ?_
  refine r_iadd (pc := 956) dL_law_956 ?_
  refine r_sld (pc := 957) (j := 6 * k + 1) (fun _ q => q) dL_law_957 (ixs (j := 1) (by omega)) (by omega) ?_
  refine r_aload_nX (pc := 958) dL_law_958 rfl ?_
  refine r_iload_n (pc := 959) dL_law_959 rfl ?_
  refine r_iconst (pc := 960) (v := 2) dL_law_960 (by decide) ?_
  refine r_iadd (pc := 961) dL_law_961 ?_
  refine r_sld (pc := 962) (j := 6 * k + 2) (fun _ q => q) dL_law_962 (ixs (j := 2) (by omega)) (by omega) ?_
  refine r_aload_nX (pc := 963) dL_law_963 rfl ?_
  refine r_iload_n (pc := 964) dL_law_964 rfl ?_
  refine r_iconst (pc := 965) (v := 3) dL_law_965 (by decide) ?_
  refine r_iadd (pc := 966) dL_law_966 ?_
  refine r_sld (pc := 967) (j := 6 * k + 3) (fun _ q => q) dL_law_967 (ixs (j := 3) (by omega)) (by omega) ?_
  refine r_aload_nX (pc := 968) dL_law_968 rfl ?_
  refine r_iload_n (pc := 969) dL_law_969 rfl ?_
  refine r_iconst (pc := 970) (v := 4) dL_law_970 (by decide) ?_
  refine r_iadd (pc := 971) dL_law_971 ?_
  refine r_sld (pc := 972) (j := 6 * k + 4) (fun _ q => q) dL_law_972 (ixs (j := 4) (by omega)) (by omega) ?_
  refine r_PO (pc := 973) (μ' := mX11_odds) (μm := mX12_odds) dL_law_973 nL_108 iX11_odds vX11_odds kX11_odds rfl rfl ⟨(Nat.le_of_ble_eq_true rfl), (Nat.le_of_ble_eq_true rfl)⟩ rfl ⟨(Nat.le_of_ble_eq_true rfl), (Nat.le_of_ble_eq_true rfl)⟩ (fun _ q => op_odds q) (fun r => ?_)
  refine r_aload_n (pc := 976) dL_law_976 rfl ?_
  refine r_aload_nX (pc := 977) dL_law_977 rfl ?_
  refine r_iload_n (pc := 978) dL_law_978 rfl ?_
  refine r_iconst (pc := 979) (v := 1) dL_law_979 (by decide) ?_
  refine r_iadd (pc := 980) dL_law_980 ?_
  refine r_sld (pc := 981) (j := 6 * k + 1) (fun _ q => q) dL_law_981 (ixs (j := 1) (by omega)) (by omega) ?_
  refine r_aload_nX (pc := 982) dL_law_982 rfl ?_
  refine r_iload_n (pc := 983) dL_law_983 rfl ?_
  refine r_iconst (pc := 984) (v := 2) dL_law_984 (by decide) ?_
  refine r_iadd (pc := 985) dL_law_985 ?_
  refine r_sld (pc := 986) (j := 6 * k + 2) (fun _ q => q) dL_law_986 (ixs (j := 2) (by omega)) (by omega) ?_
  refine r_aload_nX (pc := 987) dL_law_987 rfl ?_
  refine r_iload_n (pc := 988) dL_law_988 rfl ?_
  refine r_iconst (pc := 989) (v := 3) dL_law_989 (by decide) ?_
  refine r_iadd (pc := 990) dL_law_990 ?_
  refine r_sld (pc := 991) (j := 6 * k + 3) (fun _ q => q) dL_law_991 (ixs (j := 3) (by omega)) (by omega) ?_
  refine r_aload_nX (pc := 992) dL_law_992 rfl ?_
  refine r_iload_n (pc := 993) dL_law_993 rfl ?_
  refine r_iconst (pc := 994) (v := 4) dL_law_994 (by decide) ?_
  refine r_iadd (pc := 995) dL_law_995 ?_
  refine r_sld (pc := 996) (j := 6 * k + 4) (fun _ q => q) dL_law_996 (ixs (j := 4) (by omega)) (by omega) ?_
  refine r_Vi (pc := 997) (μ' := mX12_odds) (x := r) (P' := WI 0 (k + 1)) dL_law_997 nL_111 iX12_odds vX12_odds kX12_odds rfl rfl ⟨(Nat.le_of_ble_eq_true rfl), (Nat.le_of_ble_eq_true rfl)⟩ rfl ⟨(Nat.le_of_ble_eq_true rfl), (Nat.le_of_ble_eq_true rfl)⟩ (fun _ q => q) ?_
  exact r_icmp_eq (pc := 1000) 1397 dL_law_1000 (by decide) (fun _ => TL) (fun c => absurd rfl c)
set_option maxHeartbeats 4000000 in
theorem law_23 {L k : Nat} {xs : Nat → Int32} (hL : L ≤ 3072) (hk : 6 * k + 6 ≤ L) (TL : AW (fun X => X = some (L, xs)) room_1 mL_law 110 9819 1397 [some (.float 0), some (.ref 0), some (.ref (0 + 95)), some (.int (nI (6 * k)))] [] (WI 0 (k + 1)) (fun v _ => v = some (.int 1))) : AW (fun X => X = some (L, xs)) room_1 mL_law 110 9819 1005 [some (.float 0), some (.ref 0), some (.ref (0 + 95)), some (.int (nI (6 * k)))] [] (WI 0 k) (fun v _ => v = some (.int 1)) := by
  refine r_aload_n (pc := 1005) dL_law_1005 rfl ?_
  refine r_aload_nX (pc := 1006) dL_law_1006 rfl ?_
  refine r_iload_n (pc := 1007) dL_law_1007 rfl ?_
  refine r_iconst (pc := 1008) (v := 1) dL_law_1008 (by decide) ?_
  refine r_iadd (pc := 1009) dL_law_1009 ?_
  refine r_sld (pc := 1010) (j := 6 * k + 1) (fun _ q => q) dL_law_1010 (ixs (j := 1) (by omega)) (by omega) ?_
  refine r_PO (pc := 1011) (μ' := mX11_seed) (μm := mX12_seed) dL_law_1011 nL_112 iX11_seed vX11_seed kX11_seed rfl rfl ⟨(Nat.le_of_ble_eq_true rfl), (Nat.le_of_ble_eq_true rfl)⟩ rfl ⟨(Nat.le_of_ble_eq_true rfl), (Nat.le_of_ble_eq_true rfl)⟩ (fun _ q => op_seed q) (fun r => ?_)
  refine r_aload_n (pc := 1014) dL_law_1014 rfl ?_
  refine r_aload_nX (pc := 1015) dL_law_1015 rfl ?_
  refine r_iload_n (pc := 1016) dL_law_1016 rfl ?_
  refine r_iconst (pc := 1017) (v := 1) dL_law_1017 (by decide) ?_
  refine r_iadd (pc := 1018) dL_law_1018 ?_
  refine r_sld (pc := 1019) (j := 6 * k + 1) (fun _ q => q) dL_law_1019 (ixs (j := 1) (by omega)) (by omega) ?_
  refine r_Vi (pc := 1020) (μ' := mX12_seed) (x := r) (P' := WI 0 (k + 1)) dL_law_1020 nL_115 iX12_seed vX12_seed kX12_seed rfl rfl ⟨(Nat.le_of_ble_eq_true rfl), (Nat.le_of_ble_eq_true rfl)⟩ rfl ⟨(Nat.le_of_ble_eq_true rfl), (Nat.le_of_ble_eq_true rfl)⟩ (fun _ q => q) ?_
  exact r_icmp_eq (pc := 1023) 1397 dL_law_1023 (by decide) (fun _ => TL) (fun c => absurd rfl c)
set_option maxHeartbeats 4000000 in
theorem law_24 {L k : Nat} {xs : Nat → Int32} (hL : L ≤ 3072) (hk : 6 * k + 6 ≤ L) (TL : AW (fun X => X = some (L, xs)) room_1 mL_law 110 9819 1397 [some (.float 0), some (.ref 0), some (.ref (0 + 95)), some (.int (nI (6 * k)))] [] (WI 0 (k + 1)) (fun v _ => v = some (.int 1))) : AW (fun X => X = some (L, xs)) room_1 mL_law 110 9819 1028 [some (.float 0), some (.ref 0), some (.ref (0 + 95)), some (.int (nI (6 * k)))] [] (WI 0 k) (fun v _ => v = some (.int 1)) := by
  refine r_aload_n (pc := 1028) dL_law_1028 rfl ?_
  refine r_aload_nX (pc := 1029) dL_law_1029 rfl ?_
  refine r_iload_n (pc := 1030) dL_law_1030 rfl ?_
  refine r_iconst (pc := 1031) (v := 1) dL_law_1031 (by decide) ?_
  refine r_iadd (pc := 1032) dL_law_1032 ?_
  refine r_sld (pc := 1033) (j := 6 * k + 1) (fun _ q => q) dL_law_1033 (ixs (j := 1) (by omega)) (by omega) ?_
  refine r_aload_nX (pc := 1034) dL_law_1034 rfl ?_
  refine r_iload_n (pc := 1035) dL_law_1035 rfl ?_
  refine r_iconst (pc := 1036) (v := 2) dL_law_1036 (by decide) ?_
  refine r_iadd (pc := 1037) dL_law_1037 ?_
  refine r_sld (pc := 1038) (j := 6 * k + 2) (fun _ q => q) dL_law_1038 (ixs (j := 2) (by omega)) (by omega) ?_
  refine r_aload_nX (pc := 1039) dL_law_1039 rfl ?_
  refine r_iload_n (pc := 1040) dL_law_1040 rfl ?_
  refine r_iconst (pc := 1041) (v := 3) dL_law_1041 (by decide) ?_
  refine r_iadd (pc := 1042) dL_law_1042 ?_
  refine r_sld (pc := 1043) (j := 6 * k + 3) (fun _ q => q) dL_law_1043 (ixs (j := 3) (by omega)) (by omega) ?_
  refine r_PO (pc := 1044) (μ' := mX11_voice) (μm := mX12_voice) dL_law_1044 nL_116 iX11_voice vX11_voice kX11_voice rfl rfl ⟨(Nat.le_of_ble_eq_true rfl), (Nat.le_of_ble_eq_true rfl)⟩ rfl ⟨(Nat.le_of_ble_eq_true rfl), (Nat.le_of_ble_eq_true rfl)⟩ (fun _ q => op_voice q) (fun r => ?_)
  refine r_aload_n (pc := 1047) dL_law_1047 rfl ?_
  refine r_aload_nX (pc := 1048) dL_law_1048 rfl ?_
  refine r_iload_n (pc := 1049) dL_law_1049 rfl ?_
  refine r_iconst (pc := 1050) (v := 1) dL_law_1050 (by decide) ?_
  refine r_iadd (pc := 1051) dL_law_1051 ?_
  refine r_sld (pc := 1052) (j := 6 * k + 1) (fun _ q => q) dL_law_1052 (ixs (j := 1) (by omega)) (by omega) ?_
  refine r_aload_nX (pc := 1053) dL_law_1053 rfl ?_
  refine r_iload_n (pc := 1054) dL_law_1054 rfl ?_
  refine r_iconst (pc := 1055) (v := 2) dL_law_1055 (by decide) ?_
  refine r_iadd (pc := 1056) dL_law_1056 ?_
  refine r_sld (pc := 1057) (j := 6 * k + 2) (fun _ q => q) dL_law_1057 (ixs (j := 2) (by omega)) (by omega) ?_
  refine r_aload_nX (pc := 1058) dL_law_1058 rfl ?_
  refine r_iload_n (pc := 1059) dL_law_1059 rfl ?_
  refine r_iconst (pc := 1060) (v := 3) dL_law_1060 (by decide) ?_
  refine r_iadd (pc := 1061) dL_law_1061 ?_
  refine r_sld (pc := 1062) (j := 6 * k + 3) (fun _ q => q) dL_law_1062 (ixs (j := 3) (by omega)) (by omega) ?_
  refine r_Vi (pc := 1063) (μ' := mX12_voice) (x := r) (P' := WI 0 (k + 1)) dL_law_1063 nL_119 iX12_voice vX12_voice kX12_voice rfl rfl ⟨(Nat.le_of_ble_eq_true rfl), (Nat.le_of_ble_eq_true rfl)⟩ rfl ⟨(Nat.le_of_ble_eq_true rfl), (Nat.le_of_ble_eq_true rfl)⟩ (fun _ q => q) ?_
  exact r_icmp_eq (pc := 1066) 1397 dL_law_1066 (by decide) (fun _ => TL) (fun c => absurd rfl c)
set_option maxHeartbeats 4000000 in
theorem law_25 {L k : Nat} {xs : Nat → Int32} (hL : L ≤ 3072) (hk : 6 * k + 6 ≤ L) (TL : AW (fun X => X = some (L, xs)) room_1 mL_law 110 9819 1397 [some (.float 0), some (.ref 0), some (.ref (0 + 95)), some (.int (nI (6 * k)))] [] (WI 0 (k + 1)) (fun v _ => v = some (.int 1))) : AW (fun X => X = some (L, xs)) room_1 mL_law 110 9819 1071 [some (.float 0), some (.ref 0), some (.ref (0 + 95)), some (.int (nI (6 * k)))] [] (WI 0 k) (fun v _ => v = some (.int 1)) := by
  refine r_aload_n (pc := 1071) dL_law_1071 rfl ?_
  refine r_aload_nX (pc := 1072) dL_law_1072 rfl ?_
  refine r_iload_n (pc := 1073) dL_law_1073 rfl ?_
  refine r_iconst (pc := 1074) (v := 1) dL_law_1074 (by decide) ?_
  refine r_iadd (pc := 1075) dL_law_1075 ?_
  refine r_sld (pc := 1076) (j := 6 * k + 1) (fun _ q => q) dL_law_1076 (ixs (j := 1) (by omega)) (by omega) ?_
  refine r_PO (pc := 1077) (μ' := mX11_trace) (μm := mX12_trace) dL_law_1077 nL_120 iX11_trace vX11_trace kX11_trace rfl rfl ⟨(Nat.le_of_ble_eq_true rfl), (Nat.le_of_ble_eq_true rfl)⟩ rfl ⟨(Nat.le_of_ble_eq_true rfl), (Nat.le_of_ble_eq_true rfl)⟩ (fun _ q => op_trace q) (fun r => ?_)
  refine r_aload_n (pc := 1080) dL_law_1080 rfl ?_
  refine r_aload_nX (pc := 1081) dL_law_1081 rfl ?_
  refine r_iload_n (pc := 1082) dL_law_1082 rfl ?_
  refine r_iconst (pc := 1083) (v := 1) dL_law_1083 (by decide) ?_
  refine r_iadd (pc := 1084) dL_law_1084 ?_
  refine r_sld (pc := 1085) (j := 6 * k + 1) (fun _ q => q) dL_law_1085 (ixs (j := 1) (by omega)) (by omega) ?_
  refine r_Vi (pc := 1086) (μ' := mX12_trace) (x := r) (P' := WI 0 (k + 1)) dL_law_1086 nL_123 iX12_trace vX12_trace kX12_trace rfl rfl ⟨(Nat.le_of_ble_eq_true rfl), (Nat.le_of_ble_eq_true rfl)⟩ rfl ⟨(Nat.le_of_ble_eq_true rfl), (Nat.le_of_ble_eq_true rfl)⟩ (fun _ q => q) ?_
  exact r_icmp_eq (pc := 1089) 1397 dL_law_1089 (by decide) (fun _ => TL) (fun c => absurd rfl c)
set_option maxHeartbeats 4000000 in
theorem law_26 {L k : Nat} {xs : Nat → Int32} (hL : L ≤ 3072) (hk : 6 * k + 6 ≤ L) (TL : AW (fun X => X = some (L, xs)) room_1 mL_law 110 9819 1397 [some (.float 0), some (.ref 0), some (.ref (0 + 95)), some (.int (nI (6 * k)))] [] (WI 0 (k + 1)) (fun v _ => v = some (.int 1))) : AW (fun X => X = some (L, xs)) room_1 mL_law 110 9819 1094 [some (.float 0), some (.ref 0), some (.ref (0 + 95)), some (.int (nI (6 * k)))] [] (WI 0 k) (fun v _ => v = some (.int 1)) := by
  refine r_aload_n (pc := 1094) dL_law_1094 rfl ?_
  refine r_aload_nX (pc := 1095) dL_law_1095 rfl ?_
  refine r_iload_n (pc := 1096) dL_law_1096 rfl ?_
  refine r_iconst (pc := 1097) (v := 1) dL_law_1097 (by decide) ?_
  refine r_iadd (pc := 1098) dL_law_1098 ?_
  refine r_sld (pc := 1099) (j := 6 * k + 1) (fun _ q => q) dL_law_1099 (ixs (j := 1) (by omega)) (by omega) ?_
  refine r_aload_nX (pc := 1100) dL_law_1100 rfl ?_
  refine r_iload_n (pc := 1101) dL_law_1101 rfl ?_
  refine r_iconst (pc := 1102) (v := 2) dL_law_1102 (by decide) ?_
  refine r_iadd (pc := 1103) dL_law_1103 ?_
  refine r_sld (pc := 1104) (j := 6 * k + 2) (fun _ q => q) dL_law_1104 (ixs (j := 2) (by omega)) (by omega) ?_
  refine r_aload_nX (pc := 1105) dL_law_1105 rfl ?_
  refine r_iload_n (pc := 1106) dL_law_1106 rfl ?_
  refine r_iconst (pc := 1107) (v := 3) dL_law_1107 (by decide) ?_
  refine r_iadd (pc := 1108) dL_law_1108 ?_
  refine r_sld (pc := 1109) (j := 6 * k + 3) (fun _ q => q) dL_law_1109 (ixs (j := 3) (by omega)) (by omega) ?_
  refine r_PO (pc := 1110) (μ' := mX11_sheet) (μm := mX12_sheet) dL_law_1110 nL_124 iX11_sheet vX11_sheet kX11_sheet rfl rfl ⟨(Nat.le_of_ble_eq_true rfl), (Nat.le_of_ble_eq_true rfl)⟩ rfl ⟨(Nat.le_of_ble_eq_true rfl), (Nat.le_of_ble_eq_true rfl)⟩ (fun _ q => op_sheet q) (fun r => ?_)
  refine r_aload_n (pc := 1113) dL_law_1113 rfl ?_
  refine r_aload_nX (pc := 1114) dL_law_1114 rfl ?_
  refine r_iload_n (pc := 1115) dL_law_1115 rfl ?_
  refine r_iconst (pc := 1116) (v := 1) dL_law_1116 (by decide) ?_
  refine r_iadd (pc := 1117) dL_law_1117 ?_
  refine r_sld (pc := 1118) (j := 6 * k + 1) (fun _ q => q) dL_law_1118 (ixs (j := 1) (by omega)) (by omega) ?_
  refine r_aload_nX (pc := 1119) dL_law_1119 rfl ?_
  refine r_iload_n (pc := 1120) dL_law_1120 rfl ?_
  refine r_iconst (pc := 1121) (v := 2) dL_law_1121 (by decide) ?_
  refine r_iadd (pc := 1122) dL_law_1122 ?_
  refine r_sld (pc := 1123) (j := 6 * k + 2) (fun _ q => q) dL_law_1123 (ixs (j := 2) (by omega)) (by omega) ?_
  refine r_aload_nX (pc := 1124) dL_law_1124 rfl ?_
  refine r_iload_n (pc := 1125) dL_law_1125 rfl ?_
  refine r_iconst (pc := 1126) (v := 3) dL_law_1126 (by decide) ?_
  refine r_iadd (pc := 1127) dL_law_1127 ?_
  refine r_sld (pc := 1128) (j := 6 * k + 3) (fun _ q => q) dL_law_1128 (ixs (j := 3) (by omega)) (by omega) ?_
  refine r_Vi (pc := 1129) (μ' := mX12_sheet) (x := r) (P' := WI 0 (k + 1)) dL_law_1129 nL_127 iX12_sheet vX12_sheet kX12_sheet rfl rfl ⟨(Nat.le_of_ble_eq_true rfl), (Nat.le_of_ble_eq_true rfl)⟩ rfl ⟨(Nat.le_of_ble_eq_true rfl), (Nat.le_of_ble_eq_true rfl)⟩ (fun _ q => q) ?_
  exact r_icmp_eq (pc := 1132) 1397 dL_law_1132 (by decide) (fun _ => TL) (fun c => absurd rfl c)
set_option maxHeartbeats 4000000 in
theorem law_27 {L k : Nat} {xs : Nat → Int32} (hL : L ≤ 3072) (hk : 6 * k + 6 ≤ L) (TL : AW (fun X => X = some (L, xs)) room_1 mL_law 110 9819 1397 [some (.float 0), some (.ref 0), some (.ref (0 + 95)), some (.int (nI (6 * k)))] [] (WI 0 (k + 1)) (fun v _ => v = some (.int 1))) : AW (fun X => X = some (L, xs)) room_1 mL_law 110 9819 1137 [some (.float 0), some (.ref 0), some (.ref (0 + 95)), some (.int (nI (6 * k)))] [] (WI 0 k) (fun v _ => v = some (.int 1)) := by
  refine r_aload_n (pc := 1137) dL_law_1137 rfl ?_
  refine r_aload_nX (pc := 1138) dL_law_1138 rfl ?_
  refine r_iload_n (pc := 1139) dL_law_1139 rfl ?_
  refine r_iconst (pc := 1140) (v := 1) dL_law_1140 (by decide) ?_
  refine r_iadd (pc := 1141) dL_law_1141 ?_
  refine r_sld (pc := 1142) (j := 6 * k + 1) (fun _ q => q) dL_law_1142 (ixs (j := 1) (by omega)) (by omega) ?_
  refine r_aload_nX (pc := 1143) dL_law_1143 rfl ?_
  refine r_iload_n (pc := 1144) dL_law_1144 rfl ?_
  refine r_iconst (pc := 1145) (v := 2) dL_law_1145 (by decide) ?_
  refine r_iadd (pc := 1146) dL_law_1146 ?_
  refine r_sld (pc := 1147) (j := 6 * k + 2) (fun _ q => q) dL_law_1147 (ixs (j := 2) (by omega)) (by omega) ?_
  refine r_aload_nX (pc := 1148) dL_law_1148 rfl ?_
  refine r_iload_n (pc := 1149) dL_law_1149 rfl ?_
  refine r_iconst (pc := 1150) (v := 3) dL_law_1150 (by decide) ?_
  refine r_iadd (pc := 1151) dL_law_1151 ?_
  refine r_sld (pc := 1152) (j := 6 * k + 3) (fun _ q => q) dL_law_1152 (ixs (j := 3) (by omega)) (by omega) ?_
  refine r_PO (pc := 1153) (μ' := mX11_put) (μm := mX12_put) dL_law_1153 nL_128 iX11_put vX11_put kX11_put rfl rfl ⟨(Nat.le_of_ble_eq_true rfl), (Nat.le_of_ble_eq_true rfl)⟩ rfl ⟨(Nat.le_of_ble_eq_true rfl), (Nat.le_of_ble_eq_true rfl)⟩ (fun _ q => op_put q) (fun r => ?_)
  refine r_aload_n (pc := 1156) dL_law_1156 rfl ?_
  refine r_aload_nX (pc := 1157) dL_law_1157 rfl ?_
  refine r_iload_n (pc := 1158) dL_law_1158 rfl ?_
  refine r_iconst (pc := 1159) (v := 1) dL_law_1159 (by decide) ?_
  refine r_iadd (pc := 1160) dL_law_1160 ?_
  refine r_sld (pc := 1161) (j := 6 * k + 1) (fun _ q => q) dL_law_1161 (ixs (j := 1) (by omega)) (by omega) ?_
  refine r_aload_nX (pc := 1162) dL_law_1162 rfl ?_
  refine r_iload_n (pc := 1163) dL_law_1163 rfl ?_
  refine r_iconst (pc := 1164) (v := 2) dL_law_1164 (by decide) ?_
  refine r_iadd (pc := 1165) dL_law_1165 ?_
  refine r_sld (pc := 1166) (j := 6 * k + 2) (fun _ q => q) dL_law_1166 (ixs (j := 2) (by omega)) (by omega) ?_
  refine r_aload_nX (pc := 1167) dL_law_1167 rfl ?_
  refine r_iload_n (pc := 1168) dL_law_1168 rfl ?_
  refine r_iconst (pc := 1169) (v := 3) dL_law_1169 (by decide) ?_
  refine r_iadd (pc := 1170) dL_law_1170 ?_
  refine r_sld (pc := 1171) (j := 6 * k + 3) (fun _ q => q) dL_law_1171 (ixs (j := 3) (by omega)) (by omega) ?_
  refine r_Vi (pc := 1172) (μ' := mX12_put) (x := r) (P' := WI 0 (k + 1)) dL_law_1172 nL_131 iX12_put vX12_put kX12_put rfl rfl ⟨(Nat.le_of_ble_eq_true rfl), (Nat.le_of_ble_eq_true rfl)⟩ rfl ⟨(Nat.le_of_ble_eq_true rfl), (Nat.le_of_ble_eq_true rfl)⟩ (fun _ q => q) ?_
  exact r_icmp_eq (pc := 1175) 1397 dL_law_1175 (by decide) (fun _ => TL) (fun c => absurd rfl c)
set_option maxHeartbeats 4000000 in
theorem law_28 {L k : Nat} {xs : Nat → Int32} (hL : L ≤ 3072) (hk : 6 * k + 6 ≤ L) (TL : AW (fun X => X = some (L, xs)) room_1 mL_law 110 9819 1397 [some (.float 0), some (.ref 0), some (.ref (0 + 95)), some (.int (nI (6 * k)))] [] (WI 0 (k + 1)) (fun v _ => v = some (.int 1))) : AW (fun X => X = some (L, xs)) room_1 mL_law 110 9819 1180 [some (.float 0), some (.ref 0), some (.ref (0 + 95)), some (.int (nI (6 * k)))] [] (WI 0 k) (fun v _ => v = some (.int 1)) := by
  refine r_aload_n (pc := 1180) dL_law_1180 rfl ?_
  refine r_aload_nX (pc := 1181) dL_law_1181 rfl ?_
  refine r_iload_n (pc := 1182) dL_law_1182 rfl ?_
  refine r_iconst (pc := 1183) (v := 1) dL_law_1183 (by decide) ?_
  refine r_iadd (pc := 1184) dL_law_1184 ?_
  refine r_sld (pc := 1185) (j := 6 * k + 1) (fun _ q => q) dL_law_1185 (ixs (j := 1) (by omega)) (by omega) ?_
  refine r_aload_nX (pc := 1186) dL_law_1186 rfl ?_
  refine r_iload_n (pc := 1187) dL_law_1187 rfl ?_
  refine r_iconst (pc := 1188) (v := 2) dL_law_1188 (by decide) ?_
  refine r_iadd (pc := 1189) dL_law_1189 ?_
  refine r_sld (pc := 1190) (j := 6 * k + 2) (fun _ q => q) dL_law_1190 (ixs (j := 2) (by omega)) (by omega) ?_
  refine r_aload_nX (pc := 1191) dL_law_1191 rfl ?_
  refine r_iload_n (pc := 1192) dL_law_1192 rfl ?_
  refine r_iconst (pc := 1193) (v := 3) dL_law_1193 (by decide) ?_
  refine r_iadd (pc := 1194) dL_law_1194 ?_
  refine r_sld (pc := 1195) (j := 6 * k + 3) (fun _ q => q) dL_law_1195 (ixs (j := 3) (by omega)) (by omega) ?_
  refine r_aload_nX (pc := 1196) dL_law_1196 rfl ?_
  refine r_iload_n (pc := 1197) dL_law_1197 rfl ?_
  refine r_iconst (pc := 1198) (v := 4) dL_law_1198 (by decide) ?_
  refine r_iadd (pc := 1199) dL_law_1199 ?_
  refine r_sld (pc := 1200) (j := 6 * k + 4) (fun _ q => q) dL_law_1200 (ixs (j := 4) (by omega)) (by omega) ?_
  refine r_aload_nX (pc := 1201) dL_law_1201 rfl ?_
  refine r_iload_n (pc := 1202) dL_law_1202 rfl ?_
  refine r_iconst (pc := 1203) (v := 5) dL_law_1203 (by decide) ?_
  refine r_iadd (pc := 1204) dL_law_1204 ?_
  refine r_sld (pc := 1205) (j := 6 * k + 5) (fun _ q => q) dL_law_1205 (ixs (j := 5) (by omega)) (by omega) ?_
  refine r_PO (pc := 1206) (μ' := mX11_move) (μm := mX12_move) dL_law_1206 nL_132 iX11_move vX11_move kX11_move rfl rfl ⟨(Nat.le_of_ble_eq_true rfl), (Nat.le_of_ble_eq_true rfl)⟩ rfl ⟨(Nat.le_of_ble_eq_true rfl), (Nat.le_of_ble_eq_true rfl)⟩ (fun _ q => op_move q) (fun r => ?_)
  refine r_aload_n (pc := 1209) dL_law_1209 rfl ?_
  refine r_aload_nX (pc := 1210) dL_law_1210 rfl ?_
  refine r_iload_n (pc := 1211) dL_law_1211 rfl ?_
  refine r_iconst (pc := 1212) (v := 1) dL_law_1212 (by decide) ?_
  refine r_iadd (pc := 1213) dL_law_1213 ?_
  refine r_sld (pc := 1214) (j := 6 * k + 1) (fun _ q => q) dL_law_1214 (ixs (j := 1) (by omega)) (by omega) ?_
  refine r_aload_nX (pc := 1215) dL_law_1215 rfl ?_
  refine r_iload_n (pc := 1216) dL_law_1216 rfl ?_
  refine r_iconst (pc := 1217) (v := 2) dL_law_1217 (by decide) ?_
  refine r_iadd (pc := 1218) dL_law_1218 ?_
  refine r_sld (pc := 1219) (j := 6 * k + 2) (fun _ q => q) dL_law_1219 (ixs (j := 2) (by omega)) (by omega) ?_
  refine r_aload_nX (pc := 1220) dL_law_1220 rfl ?_
  refine r_iload_n (pc := 1221) dL_law_1221 rfl ?_
  refine r_iconst (pc := 1222) (v := 3) dL_law_1222 (by decide) ?_
  refine r_iadd (pc := 1223) dL_law_1223 ?_
  refine r_sld (pc := 1224) (j := 6 * k + 3) (fun _ q => q) dL_law_1224 (ixs (j := 3) (by omega)) (by omega) ?_
  refine r_aload_nX (pc := 1225) dL_law_1225 rfl ?_
  refine r_iload_n (pc := 1226) dL_law_1226 rfl ?_
  refine r_iconst (pc := 1227) (v := 4) dL_law_1227 (by decide) ?_
  refine r_iadd (pc := 1228) dL_law_1228 ?_
  refine r_sld (pc := 1229) (j := 6 * k + 4) (fun _ q => q) dL_law_1229 (ixs (j := 4) (by omega)) (by omega) ?_
  refine r_aload_nX (pc := 1230) dL_law_1230 rfl ?_
  refine r_iload_n (pc := 1231) dL_law_1231 rfl ?_
  refine r_iconst (pc := 1232) (v := 5) dL_law_1232 (by decide) ?_
  refine r_iadd (pc := 1233) dL_law_1233 ?_
  refine r_sld (pc := 1234) (j := 6 * k + 5) (fun _ q => q) dL_law_1234 (ixs (j := 5) (by omega)) (by omega) ?_
  refine r_Vi (pc := 1235) (μ' := mX12_move) (x := r) (P' := WI 0 (k + 1)) dL_law_1235 nL_136 iX12_move vX12_move kX12_move rfl rfl ⟨(Nat.le_of_ble_eq_true rfl), (Nat.le_of_ble_eq_true rfl)⟩ rfl ⟨(Nat.le_of_ble_eq_true rfl), (Nat.le_of_ble_eq_true rfl)⟩ (fun _ q => q) ?_
  exact r_icmp_eq (pc := 1238) 1397 dL_law_1238 (by decide) (fun _ => TL) (fun c => absurd rfl c)
set_option maxHeartbeats 4000000 in
theorem law_29 {L k : Nat} {xs : Nat → Int32} (hL : L ≤ 3072) (hk : 6 * k + 6 ≤ L) (TL : AW (fun X => X = some (L, xs)) room_1 mL_law 110 9819 1397 [some (.float 0), some (.ref 0), some (.ref (0 + 95)), some (.int (nI (6 * k)))] [] (WI 0 (k + 1)) (fun v _ => v = some (.int 1))) : AW (fun X => X = some (L, xs)) room_1 mL_law 110 9819 1243 [some (.float 0), some (.ref 0), some (.ref (0 + 95)), some (.int (nI (6 * k)))] [] (WI 0 k) (fun v _ => v = some (.int 1)) := by
  refine r_aload_n (pc := 1243) dL_law_1243 rfl ?_
  refine r_aload_nX (pc := 1244) dL_law_1244 rfl ?_
  refine r_iload_n (pc := 1245) dL_law_1245 rfl ?_
  refine r_iconst (pc := 1246) (v := 1) dL_law_1246 (by decide) ?_
  refine r_iadd (pc := 1247) dL_law_1247 ?_
  refine r_sld (pc := 1248) (j := 6 * k + 1) (fun _ q => q) dL_law_1248 (ixs (j := 1) (by omega)) (by omega) ?_
  refine r_PO (pc := 1249) (μ' := mX11_whites) (μm := mX12_whites) dL_law_1249 nL_137 iX11_whites vX11_whites kX11_whites rfl rfl ⟨(Nat.le_of_ble_eq_true rfl), (Nat.le_of_ble_eq_true rfl)⟩ rfl ⟨(Nat.le_of_ble_eq_true rfl), (Nat.le_of_ble_eq_true rfl)⟩ (fun _ q => op_whites q) (fun r => ?_)
  refine r_aload_n (pc := 1252) dL_law_1252 rfl ?_
  refine r_aload_nX (pc := 1253) dL_law_1253 rfl ?_
  refine r_iload_n (pc := 1254) dL_law_1254 rfl ?_
  refine r_iconst (pc := 1255) (v := 1) dL_law_1255 (by decide) ?_
  refine r_iadd (pc := 1256) dL_law_1256 ?_
  refine r_sld (pc := 1257) (j := 6 * k + 1) (fun _ q => q) dL_law_1257 (ixs (j := 1) (by omega)) (by omega) ?_
  refine r_Vi (pc := 1258) (μ' := mX12_whites) (x := r) (P' := WI 0 (k + 1)) dL_law_1258 nL_140 iX12_whites vX12_whites kX12_whites rfl rfl ⟨(Nat.le_of_ble_eq_true rfl), (Nat.le_of_ble_eq_true rfl)⟩ rfl ⟨(Nat.le_of_ble_eq_true rfl), (Nat.le_of_ble_eq_true rfl)⟩ (fun _ q => q) ?_
  exact r_icmp_eq (pc := 1261) 1397 dL_law_1261 (by decide) (fun _ => TL) (fun c => absurd rfl c)
set_option maxHeartbeats 4000000 in
theorem law_30 {L k : Nat} {xs : Nat → Int32} (hL : L ≤ 3072) (hk : 6 * k + 6 ≤ L) (TL : AW (fun X => X = some (L, xs)) room_1 mL_law 110 9819 1397 [some (.float 0), some (.ref 0), some (.ref (0 + 95)), some (.int (nI (6 * k)))] [] (WI 0 (k + 1)) (fun v _ => v = some (.int 1))) : AW (fun X => X = some (L, xs)) room_1 mL_law 110 9819 1266 [some (.float 0), some (.ref 0), some (.ref (0 + 95)), some (.int (nI (6 * k)))] [] (WI 0 k) (fun v _ => v = some (.int 1)) := by
  refine r_aload_n (pc := 1266) dL_law_1266 rfl ?_
  refine r_aload_nX (pc := 1267) dL_law_1267 rfl ?_
  refine r_iload_n (pc := 1268) dL_law_1268 rfl ?_
  refine r_iconst (pc := 1269) (v := 1) dL_law_1269 (by decide) ?_
  refine r_iadd (pc := 1270) dL_law_1270 ?_
  refine r_sld (pc := 1271) (j := 6 * k + 1) (fun _ q => q) dL_law_1271 (ixs (j := 1) (by omega)) (by omega) ?_
  refine r_PO (pc := 1272) (μ' := mX11_judge) (μm := mX12_judge) dL_law_1272 nL_141 iX11_judge vX11_judge kX11_judge rfl rfl ⟨(Nat.le_of_ble_eq_true rfl), (Nat.le_of_ble_eq_true rfl)⟩ rfl ⟨(Nat.le_of_ble_eq_true rfl), (Nat.le_of_ble_eq_true rfl)⟩ (fun _ q => op_judge q) (fun r => ?_)
  refine r_aload_n (pc := 1275) dL_law_1275 rfl ?_
  refine r_aload_nX (pc := 1276) dL_law_1276 rfl ?_
  refine r_iload_n (pc := 1277) dL_law_1277 rfl ?_
  refine r_iconst (pc := 1278) (v := 1) dL_law_1278 (by decide) ?_
  refine r_iadd (pc := 1279) dL_law_1279 ?_
  refine r_sld (pc := 1280) (j := 6 * k + 1) (fun _ q => q) dL_law_1280 (ixs (j := 1) (by omega)) (by omega) ?_
  refine r_Vi (pc := 1281) (μ' := mX12_judge) (x := r) (P' := WI 0 (k + 1)) dL_law_1281 nL_144 iX12_judge vX12_judge kX12_judge rfl rfl ⟨(Nat.le_of_ble_eq_true rfl), (Nat.le_of_ble_eq_true rfl)⟩ rfl ⟨(Nat.le_of_ble_eq_true rfl), (Nat.le_of_ble_eq_true rfl)⟩ (fun _ q => q) ?_
  exact r_icmp_eq (pc := 1284) 1397 dL_law_1284 (by decide) (fun _ => TL) (fun c => absurd rfl c)
set_option maxHeartbeats 4000000 in
theorem law_31 {L k : Nat} {xs : Nat → Int32} (hL : L ≤ 3072) (hk : 6 * k + 6 ≤ L) (TL : AW (fun X => X = some (L, xs)) room_1 mL_law 110 9819 1397 [some (.float 0), some (.ref 0), some (.ref (0 + 95)), some (.int (nI (6 * k)))] [] (WI 0 (k + 1)) (fun v _ => v = some (.int 1))) : AW (fun X => X = some (L, xs)) room_1 mL_law 110 9819 1289 [some (.float 0), some (.ref 0), some (.ref (0 + 95)), some (.int (nI (6 * k)))] [] (WI 0 k) (fun v _ => v = some (.int 1)) := by
  refine r_aload_n (pc := 1289) dL_law_1289 rfl ?_
  refine r_PO (pc := 1290) (μ' := mX11_image) (μm := mX12_image) dL_law_1290 nL_145 iX11_image vX11_image kX11_image rfl rfl ⟨(Nat.le_of_ble_eq_true rfl), (Nat.le_of_ble_eq_true rfl)⟩ rfl ⟨(Nat.le_of_ble_eq_true rfl), (Nat.le_of_ble_eq_true rfl)⟩ (fun _ q => op_image (by omega) q) (fun r => ?_)
  refine r_aload_n (pc := 1293) dL_law_1293 rfl ?_
  refine r_Vi (pc := 1294) (μ' := mX12_image) (x := r) (P' := WI 0 (k + 1)) dL_law_1294 nL_149 iX12_image vX12_image kX12_image rfl rfl ⟨(Nat.le_of_ble_eq_true rfl), (Nat.le_of_ble_eq_true rfl)⟩ rfl ⟨(Nat.le_of_ble_eq_true rfl), (Nat.le_of_ble_eq_true rfl)⟩ (fun _ q => q) ?_
  exact r_icmp_eq (pc := 1297) 1397 dL_law_1297 (by decide) (fun _ => TL) (fun c => absurd rfl c)
set_option maxHeartbeats 4000000 in
theorem law_32 {L k : Nat} {xs : Nat → Int32} (hL : L ≤ 3072) (hk : 6 * k + 6 ≤ L) (TL : AW (fun X => X = some (L, xs)) room_1 mL_law 110 9819 1397 [some (.float 0), some (.ref 0), some (.ref (0 + 95)), some (.int (nI (6 * k)))] [] (WI 0 (k + 1)) (fun v _ => v = some (.int 1))) : AW (fun X => X = some (L, xs)) room_1 mL_law 110 9819 1302 [some (.float 0), some (.ref 0), some (.ref (0 + 95)), some (.int (nI (6 * k)))] [] (WI 0 k) (fun v _ => v = some (.int 1)) := by
  refine r_aload_n (pc := 1302) dL_law_1302 rfl ?_
  refine r_PO (pc := 1303) (μ' := mX11_restore) (μm := mX12_restore) dL_law_1303 nL_150 iX11_restore vX11_restore kX11_restore rfl rfl ⟨(Nat.le_of_ble_eq_true rfl), (Nat.le_of_ble_eq_true rfl)⟩ rfl ⟨(Nat.le_of_ble_eq_true rfl), (Nat.le_of_ble_eq_true rfl)⟩ (fun _ q => op_restore q) (fun r => ?_)
  refine r_aload_n (pc := 1306) dL_law_1306 rfl ?_
  refine r_Vi (pc := 1307) (μ' := mX12_restore) (x := r) (P' := WI 0 (k + 1)) dL_law_1307 nL_153 iX12_restore vX12_restore kX12_restore rfl rfl ⟨(Nat.le_of_ble_eq_true rfl), (Nat.le_of_ble_eq_true rfl)⟩ rfl ⟨(Nat.le_of_ble_eq_true rfl), (Nat.le_of_ble_eq_true rfl)⟩ (fun _ q => q) ?_
  exact r_icmp_eq (pc := 1310) 1397 dL_law_1310 (by decide) (fun _ => TL) (fun c => absurd rfl c)
set_option maxHeartbeats 4000000 in
theorem law_33 {L k : Nat} {xs : Nat → Int32} (hL : L ≤ 3072) (hk : 6 * k + 6 ≤ L) (TL : AW (fun X => X = some (L, xs)) room_1 mL_law 110 9819 1397 [some (.float 0), some (.ref 0), some (.ref (0 + 95)), some (.int (nI (6 * k)))] [] (WI 0 (k + 1)) (fun v _ => v = some (.int 1))) : AW (fun X => X = some (L, xs)) room_1 mL_law 110 9819 1315 [some (.float 0), some (.ref 0), some (.ref (0 + 95)), some (.int (nI (6 * k)))] [] (WI 0 k) (fun v _ => v = some (.int 1)) := by
  refine r_aload_n (pc := 1315) dL_law_1315 rfl ?_
  refine r_aload_nX (pc := 1316) dL_law_1316 rfl ?_
  refine r_iload_n (pc := 1317) dL_law_1317 rfl ?_
  refine r_iconst (pc := 1318) (v := 1) dL_law_1318 (by decide) ?_
  refine r_iadd (pc := 1319) dL_law_1319 ?_
  refine r_sld (pc := 1320) (j := 6 * k + 1) (fun _ q => q) dL_law_1320 (ixs (j := 1) (by omega)) (by omega) ?_
  refine r_PO (pc := 1321) (μ' := mX11_tell) (μm := mX12_tell) dL_law_1321 nL_154 iX11_tell vX11_tell kX11_tell rfl rfl ⟨(Nat.le_of_ble_eq_true rfl), (Nat.le_of_ble_eq_true rfl)⟩ rfl ⟨(Nat.le_of_ble_eq_true rfl), (Nat.le_of_ble_eq_true rfl)⟩ (fun _ q => op_tell q) (fun r => ?_)
  refine r_aload_n (pc := 1324) dL_law_1324 rfl ?_
  refine r_aload_nX (pc := 1325) dL_law_1325 rfl ?_
  refine r_iload_n (pc := 1326) dL_law_1326 rfl ?_
  refine r_iconst (pc := 1327) (v := 1) dL_law_1327 (by decide) ?_
  refine r_iadd (pc := 1328) dL_law_1328 ?_
  refine r_sld (pc := 1329) (j := 6 * k + 1) (fun _ q => q) dL_law_1329 (ixs (j := 1) (by omega)) (by omega) ?_
  refine r_Vi (pc := 1330) (μ' := mX12_tell) (x := r) (P' := WI 0 (k + 1)) dL_law_1330 nL_157 iX12_tell vX12_tell kX12_tell rfl rfl ⟨(Nat.le_of_ble_eq_true rfl), (Nat.le_of_ble_eq_true rfl)⟩ rfl ⟨(Nat.le_of_ble_eq_true rfl), (Nat.le_of_ble_eq_true rfl)⟩ (fun _ q => q) ?_
  exact r_icmp_eq (pc := 1333) 1397 dL_law_1333 (by decide) (fun _ => TL) (fun c => absurd rfl c)
set_option maxHeartbeats 4000000 in
theorem law_34 {L k : Nat} {xs : Nat → Int32} (hL : L ≤ 3072) (hk : 6 * k + 6 ≤ L) (TL : AW (fun X => X = some (L, xs)) room_1 mL_law 110 9819 1397 [some (.float 0), some (.ref 0), some (.ref (0 + 95)), some (.int (nI (6 * k)))] [] (WI 0 (k + 1)) (fun v _ => v = some (.int 1))) : AW (fun X => X = some (L, xs)) room_1 mL_law 110 9819 1338 [some (.float 0), some (.ref 0), some (.ref (0 + 95)), some (.int (nI (6 * k)))] [] (WI 0 k) (fun v _ => v = some (.int 1)) := by
  refine r_aload_n (pc := 1338) dL_law_1338 rfl ?_
  refine r_PO (pc := 1339) (μ' := mX11_check) (μm := mX12_check) dL_law_1339 nL_158 iX11_check vX11_check kX11_check rfl rfl ⟨(Nat.le_of_ble_eq_true rfl), (Nat.le_of_ble_eq_true rfl)⟩ rfl ⟨(Nat.le_of_ble_eq_true rfl), (Nat.le_of_ble_eq_true rfl)⟩ (fun _ q => op_check q) (fun r => ?_)
  refine r_aload_n (pc := 1342) dL_law_1342 rfl ?_
  refine r_Vi (pc := 1343) (μ' := mX12_check) (x := r) (P' := WI 0 (k + 1)) dL_law_1343 nL_161 iX12_check vX12_check kX12_check rfl rfl ⟨(Nat.le_of_ble_eq_true rfl), (Nat.le_of_ble_eq_true rfl)⟩ rfl ⟨(Nat.le_of_ble_eq_true rfl), (Nat.le_of_ble_eq_true rfl)⟩ (fun _ q => q) ?_
  exact r_icmp_eq (pc := 1346) 1397 dL_law_1346 (by decide) (fun _ => TL) (fun c => absurd rfl c)
set_option maxHeartbeats 4000000 in
theorem law_35 {L k : Nat} {xs : Nat → Int32} (hL : L ≤ 3072) (hk : 6 * k + 6 ≤ L) (TL : AW (fun X => X = some (L, xs)) room_1 mL_law 110 9819 1397 [some (.float 0), some (.ref 0), some (.ref (0 + 95)), some (.int (nI (6 * k)))] [] (WI 0 (k + 1)) (fun v _ => v = some (.int 1))) : AW (fun X => X = some (L, xs)) room_1 mL_law 110 9819 1351 [some (.float 0), some (.ref 0), some (.ref (0 + 95)), some (.int (nI (6 * k)))] [] (WI 0 k) (fun v _ => v = some (.int 1)) := by
  refine r_aload_n (pc := 1351) dL_law_1351 rfl ?_
  refine r_aload_nX (pc := 1352) dL_law_1352 rfl ?_
  refine r_iload_n (pc := 1353) dL_law_1353 rfl ?_
  refine r_iconst (pc := 1354) (v := 1) dL_law_1354 (by decide) ?_
  refine r_iadd (pc := 1355) dL_law_1355 ?_
  refine r_sld (pc := 1356) (j := 6 * k + 1) (fun _ q => q) dL_law_1356 (ixs (j := 1) (by omega)) (by omega) ?_
  refine r_PO (pc := 1357) (μ' := mX11_count) (μm := mX12_count) dL_law_1357 nL_162 iX11_count vX11_count kX11_count rfl rfl ⟨(Nat.le_of_ble_eq_true rfl), (Nat.le_of_ble_eq_true rfl)⟩ rfl ⟨(Nat.le_of_ble_eq_true rfl), (Nat.le_of_ble_eq_true rfl)⟩ (fun _ q => op_count q) (fun r => ?_)
  refine r_aload_n (pc := 1360) dL_law_1360 rfl ?_
  refine r_aload_nX (pc := 1361) dL_law_1361 rfl ?_
  refine r_iload_n (pc := 1362) dL_law_1362 rfl ?_
  refine r_iconst (pc := 1363) (v := 1) dL_law_1363 (by decide) ?_
  refine r_iadd (pc := 1364) dL_law_1364 ?_
  refine r_sld (pc := 1365) (j := 6 * k + 1) (fun _ q => q) dL_law_1365 (ixs (j := 1) (by omega)) (by omega) ?_
  refine r_Vi (pc := 1366) (μ' := mX12_count) (x := r) (P' := WI 0 (k + 1)) dL_law_1366 nL_165 iX12_count vX12_count kX12_count rfl rfl ⟨(Nat.le_of_ble_eq_true rfl), (Nat.le_of_ble_eq_true rfl)⟩ rfl ⟨(Nat.le_of_ble_eq_true rfl), (Nat.le_of_ble_eq_true rfl)⟩ (fun _ q => q) ?_
  exact r_icmp_eq (pc := 1369) 1397 dL_law_1369 (by decide) (fun _ => TL) (fun c => absurd rfl c)
set_option maxHeartbeats 4000000 in
theorem law_36 {L k : Nat} {xs : Nat → Int32} (hL : L ≤ 3072) (hk : 6 * k + 6 ≤ L) (TL : AW (fun X => X = some (L, xs)) room_1 mL_law 110 9819 1397 [some (.float 0), some (.ref 0), some (.ref (0 + 95)), some (.int (nI (6 * k)))] [] (WI 0 (k + 1)) (fun v _ => v = some (.int 1))) : AW (fun X => X = some (L, xs)) room_1 mL_law 110 9819 1374 [some (.float 0), some (.ref 0), some (.ref (0 + 95)), some (.int (nI (6 * k)))] [] (WI 0 k) (fun v _ => v = some (.int 1)) := by
  refine r_aload_n (pc := 1374) dL_law_1374 rfl ?_
  refine r_aload_nX (pc := 1375) dL_law_1375 rfl ?_
  refine r_iload_n (pc := 1376) dL_law_1376 rfl ?_
  refine r_iconst (pc := 1377) (v := 1) dL_law_1377 (by decide) ?_
  refine r_iadd (pc := 1378) dL_law_1378 ?_
  refine r_sld (pc := 1379) (j := 6 * k + 1) (fun _ q => q) dL_law_1379 (ixs (j := 1) (by omega)) (by omega) ?_
  refine r_PO (pc := 1380) (μ' := mX11_told) (μm := mX12_told) dL_law_1380 nL_166 iX11_told vX11_told kX11_told rfl rfl ⟨(Nat.le_of_ble_eq_true rfl), (Nat.le_of_ble_eq_true rfl)⟩ rfl ⟨(Nat.le_of_ble_eq_true rfl), (Nat.le_of_ble_eq_true rfl)⟩ (fun _ q => op_told q) (fun r => ?_)
  refine r_aload_n (pc := 1383) dL_law_1383 rfl ?_
  refine r_aload_nX (pc := 1384) dL_law_1384 rfl ?_
  refine r_iload_n (pc := 1385) dL_law_1385 rfl ?_
  refine r_iconst (pc := 1386) (v := 1) dL_law_1386 (by decide) ?_
  refine r_iadd (pc := 1387) dL_law_1387 ?_
  refine r_sld (pc := 1388) (j := 6 * k + 1) (fun _ q => q) dL_law_1388 (ixs (j := 1) (by omega)) (by omega) ?_
  refine r_Vi (pc := 1389) (μ' := mX12_told) (x := r) (P' := WI 0 (k + 1)) dL_law_1389 nL_169 iX12_told vX12_told kX12_told rfl rfl ⟨(Nat.le_of_ble_eq_true rfl), (Nat.le_of_ble_eq_true rfl)⟩ rfl ⟨(Nat.le_of_ble_eq_true rfl), (Nat.le_of_ble_eq_true rfl)⟩ (fun _ q => q) ?_
  exact r_icmp_eq (pc := 1392) 1397 dL_law_1392 (by decide) (fun _ => TL) (fun c => absurd rfl c)
set_option maxHeartbeats 8000000 in
theorem law_loop {L : Nat} {xs : Nat → Int32} (hL : L ≤ 3072) : ∀ n k, k + n = 600 → 6 * k ≤ L → AW (fun X => X = some (L, xs)) room_1 mL_law 110 9819 18 [some (.float 0), some (.ref 0), some (.ref (0 + 95)), some (.int (nI (6 * k)))] [] (WI 0 k) (fun v _ => v = some (.int 1)) := by
  intro n
  induction n with
  | zero => intro k h1 h2; exact absurd h2 (by omega)
  | succ n ih =>
    intro k h1 h2
    refine r_iload_n (pc := 18) dL_law_18 rfl ?_
    refine r_aload_nX (pc := 19) dL_law_19 rfl ?_
    refine r_slen (pc := 20) (fun _ q => q) dL_law_20 ?_
    refine r_bipush (pc := 21) (v := 6) dL_law_21 (by decide) ?_
    refine r_isub (pc := 23) dL_law_23 ?_
    refine r_icmp_gt (pc := 24) 1403 dL_law_24 (by decide) (fun _ => ?_) (fun c => ?_)
    · refine r_iconst (pc := 1403) (v := 1) dL_law_1403 (by decide) ?_
      exact r_ireturn (pc := 1404) (ty := .boolean) dL_law_1404 rfl rfl ⟨(Nat.le_of_ble_eq_true rfl), (Nat.le_of_ble_eq_true rfl)⟩ (fun _ _ => rfl)
    · have hk : 6 * k + 6 ≤ L := by
        by_cases c6 : 6 ≤ L
        · rw [show (Int32.ofNat L - 6 : Int32) = nI (L - 6) from nI_sub' (a := L) (b := 6) (by omega)] at c
          refine Classical.byContradiction fun e => c (fa_lt.mpr ?_)
          rw [nI_T (by omega), nI_T (by omega)]
          omega
        · obtain rfl : k = 0 := by omega
          exact absurd (sub_lt0 L (by omega)) c
      have TL0 : ∀ P : AH → Prop, (∀ g, P g → WI 0 (k + 1) g) → AW (fun X => X = some (L, xs)) room_1 mL_law 110 9819 1397 [some (.float 0), some (.ref 0), some (.ref (0 + 95)), some (.int (nI (6 * k)))] [] P (fun v _ => v = some (.int 1)) := by
        intro P hP
        refine r_iinc6 (pc := 1397) dL_law_1397 rfl (Nat.le_of_ble_eq_true rfl) rfl ?_
        dsimp only [lset]
        refine r_goto (pc := 1400) 18 dL_law_1400 (by decide) ?_
        rw [show nI (6 * k) + 6 = nI (6 * (k + 1)) from by rw [show (6 : Int32) = nI 6 from rfl, nI_add, Nat.mul_succ]]
        exact aw_P hP (ih (k + 1) (by omega) (by omega))
      have TL := TL0 (WI 0 (k + 1)) (fun _ q => q)
      refine r_aload_nX (pc := 27) dL_law_27 rfl ?_
      refine r_iload_n (pc := 28) dL_law_28 rfl ?_
      refine r_sld (pc := 29) (j := 6 * k) (fun _ q => q) dL_law_29 (nI_T (by omega)) (by omega) ?_
      refine r_bipush (pc := 30) (v := 63) dL_law_30 (by decide) ?_
      refine r_iand (pc := 32) dL_law_32 ?_
      obtain ⟨y, hy⟩ : ∃ y, y = xs (6 * k) &&& 63 := ⟨_, rfl⟩
      rw [← hy]
      by_cases s0 : y = 0
      · exact r_tableAt (pc := 33) 196 0 dL_law_33 (by rw [s0]; decide) (by decide) rfl (by decide) (law_0 hL hk TL)
      by_cases s1 : y = 1
      · exact r_tableAt (pc := 33) 229 1 dL_law_33 (by rw [s1]; decide) (by decide) rfl (by decide) (law_1 hL hk TL)
      by_cases s2 : y = 2
      · exact r_tableAt (pc := 33) 262 2 dL_law_33 (by rw [s2]; decide) (by decide) rfl (by decide) (law_2 hL hk TL)
      by_cases s3 : y = 3
      · exact r_tableAt (pc := 33) 295 3 dL_law_33 (by rw [s3]; decide) (by decide) rfl (by decide) (law_3 hL hk TL)
      by_cases s4 : y = 4
      · exact r_tableAt (pc := 33) 318 4 dL_law_33 (by rw [s4]; decide) (by decide) rfl (by decide) (law_4 hL hk TL)
      by_cases s5 : y = 5
      · exact r_tableAt (pc := 33) 351 5 dL_law_33 (by rw [s5]; decide) (by decide) rfl (by decide) (law_5 hL hk TL)
      by_cases s6 : y = 6
      · exact r_tableAt (pc := 33) 384 6 dL_law_33 (by rw [s6]; decide) (by decide) rfl (by decide) (law_6 hL hk TL)
      by_cases s7 : y = 7
      · exact r_tableAt (pc := 33) 417 7 dL_law_33 (by rw [s7]; decide) (by decide) rfl (by decide) (law_7 hL hk TL)
      by_cases s8 : y = 8
      · exact r_tableAt (pc := 33) 480 8 dL_law_33 (by rw [s8]; decide) (by decide) rfl (by decide) (law_8 hL hk TL)
      by_cases s9 : y = 9
      · exact r_tableAt (pc := 33) 503 9 dL_law_33 (by rw [s9]; decide) (by decide) rfl (by decide) (law_9 hL hk TL)
      by_cases s10 : y = 10
      · exact r_tableAt (pc := 33) 556 10 dL_law_33 (by rw [s10]; decide) (by decide) rfl (by decide) (law_10 hL hk TL)
      by_cases s11 : y = 11
      · exact r_tableAt (pc := 33) 599 11 dL_law_33 (by rw [s11]; decide) (by decide) rfl (by decide) (law_11 hL hk TL)
      by_cases s12 : y = 12
      · exact r_tableAt (pc := 33) 622 12 dL_law_33 (by rw [s12]; decide) (by decide) rfl (by decide) (law_12 hL hk TL)
      by_cases s13 : y = 13
      · exact r_tableAt (pc := 33) 645 13 dL_law_33 (by rw [s13]; decide) (by decide) rfl (by decide) (law_13 hL hk TL)
      by_cases s14 : y = 14
      · exact r_tableAt (pc := 33) 668 14 dL_law_33 (by rw [s14]; decide) (by decide) rfl (by decide) (law_14 hL hk TL)
      by_cases s15 : y = 15
      · exact r_tableAt (pc := 33) 701 15 dL_law_33 (by rw [s15]; decide) (by decide) rfl (by decide) (law_15 hL hk TL)
      by_cases s16 : y = 16
      · exact r_tableAt (pc := 33) 734 16 dL_law_33 (by rw [s16]; decide) (by decide) rfl (by decide) (law_16 hL hk TL)
      by_cases s17 : y = 17
      · exact r_tableAt (pc := 33) 767 17 dL_law_33 (by rw [s17]; decide) (by decide) rfl (by decide) (law_17 hL hk TL)
      by_cases s18 : y = 18
      · exact r_tableAt (pc := 33) 810 18 dL_law_33 (by rw [s18]; decide) (by decide) rfl (by decide) (law_18 hL hk TL)
      by_cases s19 : y = 19
      · exact r_tableAt (pc := 33) 853 19 dL_law_33 (by rw [s19]; decide) (by decide) rfl (by decide) (law_19 hL hk TL)
      by_cases s20 : y = 20
      · exact r_tableAt (pc := 33) 886 20 dL_law_33 (by rw [s20]; decide) (by decide) rfl (by decide) (law_20 hL hk TL)
      by_cases s21 : y = 21
      · exact r_tableAt (pc := 33) 909 21 dL_law_33 (by rw [s21]; decide) (by decide) rfl (by decide) (law_21 hL hk TL)
      by_cases s22 : y = 22
      · exact r_tableAt (pc := 33) 952 22 dL_law_33 (by rw [s22]; decide) (by decide) rfl (by decide) (law_22 hL hk TL)
      by_cases s23 : y = 23
      · exact r_tableAt (pc := 33) 1005 23 dL_law_33 (by rw [s23]; decide) (by decide) rfl (by decide) (law_23 hL hk TL)
      by_cases s24 : y = 24
      · exact r_tableAt (pc := 33) 1028 24 dL_law_33 (by rw [s24]; decide) (by decide) rfl (by decide) (law_24 hL hk TL)
      by_cases s25 : y = 25
      · exact r_tableAt (pc := 33) 1071 25 dL_law_33 (by rw [s25]; decide) (by decide) rfl (by decide) (law_25 hL hk TL)
      by_cases s26 : y = 26
      · exact r_tableAt (pc := 33) 1094 26 dL_law_33 (by rw [s26]; decide) (by decide) rfl (by decide) (law_26 hL hk TL)
      by_cases s27 : y = 27
      · exact r_tableAt (pc := 33) 1137 27 dL_law_33 (by rw [s27]; decide) (by decide) rfl (by decide) (law_27 hL hk TL)
      by_cases s28 : y = 28
      · exact r_tableAt (pc := 33) 1180 28 dL_law_33 (by rw [s28]; decide) (by decide) rfl (by decide) (law_28 hL hk TL)
      by_cases s29 : y = 29
      · exact r_tableAt (pc := 33) 1243 29 dL_law_33 (by rw [s29]; decide) (by decide) rfl (by decide) (law_29 hL hk TL)
      by_cases s30 : y = 30
      · exact r_tableAt (pc := 33) 1266 30 dL_law_33 (by rw [s30]; decide) (by decide) rfl (by decide) (law_30 hL hk TL)
      by_cases s31 : y = 31
      · exact r_tableAt (pc := 33) 1289 31 dL_law_33 (by rw [s31]; decide) (by decide) rfl (by decide) (law_31 hL hk TL)
      by_cases s32 : y = 32
      · exact r_tableAt (pc := 33) 1302 32 dL_law_33 (by rw [s32]; decide) (by decide) rfl (by decide) (law_32 hL hk TL)
      by_cases s33 : y = 33
      · exact r_tableAt (pc := 33) 1315 33 dL_law_33 (by rw [s33]; decide) (by decide) rfl (by decide) (law_33 hL hk TL)
      by_cases s34 : y = 34
      · exact r_tableAt (pc := 33) 1338 34 dL_law_33 (by rw [s34]; decide) (by decide) rfl (by decide) (law_34 hL hk TL)
      by_cases s35 : y = 35
      · exact r_tableAt (pc := 33) 1351 35 dL_law_33 (by rw [s35]; decide) (by decide) rfl (by decide) (law_35 hL hk TL)
      by_cases s36 : y = 36
      · exact r_tableAt (pc := 33) 1374 36 dL_law_33 (by rw [s36]; decide) (by decide) rfl (by decide) (law_36 hL hk TL)
      have t0 : ¬ y.toInt = 0 := fun q => s0 (Int32.toInt_inj.mp q)
      have t1 : ¬ y.toInt = 1 := fun q => s1 (Int32.toInt_inj.mp q)
      have t2 : ¬ y.toInt = 2 := fun q => s2 (Int32.toInt_inj.mp q)
      have t3 : ¬ y.toInt = 3 := fun q => s3 (Int32.toInt_inj.mp q)
      have t4 : ¬ y.toInt = 4 := fun q => s4 (Int32.toInt_inj.mp q)
      have t5 : ¬ y.toInt = 5 := fun q => s5 (Int32.toInt_inj.mp q)
      have t6 : ¬ y.toInt = 6 := fun q => s6 (Int32.toInt_inj.mp q)
      have t7 : ¬ y.toInt = 7 := fun q => s7 (Int32.toInt_inj.mp q)
      have t8 : ¬ y.toInt = 8 := fun q => s8 (Int32.toInt_inj.mp q)
      have t9 : ¬ y.toInt = 9 := fun q => s9 (Int32.toInt_inj.mp q)
      have t10 : ¬ y.toInt = 10 := fun q => s10 (Int32.toInt_inj.mp q)
      have t11 : ¬ y.toInt = 11 := fun q => s11 (Int32.toInt_inj.mp q)
      have t12 : ¬ y.toInt = 12 := fun q => s12 (Int32.toInt_inj.mp q)
      have t13 : ¬ y.toInt = 13 := fun q => s13 (Int32.toInt_inj.mp q)
      have t14 : ¬ y.toInt = 14 := fun q => s14 (Int32.toInt_inj.mp q)
      have t15 : ¬ y.toInt = 15 := fun q => s15 (Int32.toInt_inj.mp q)
      have t16 : ¬ y.toInt = 16 := fun q => s16 (Int32.toInt_inj.mp q)
      have t17 : ¬ y.toInt = 17 := fun q => s17 (Int32.toInt_inj.mp q)
      have t18 : ¬ y.toInt = 18 := fun q => s18 (Int32.toInt_inj.mp q)
      have t19 : ¬ y.toInt = 19 := fun q => s19 (Int32.toInt_inj.mp q)
      have t20 : ¬ y.toInt = 20 := fun q => s20 (Int32.toInt_inj.mp q)
      have t21 : ¬ y.toInt = 21 := fun q => s21 (Int32.toInt_inj.mp q)
      have t22 : ¬ y.toInt = 22 := fun q => s22 (Int32.toInt_inj.mp q)
      have t23 : ¬ y.toInt = 23 := fun q => s23 (Int32.toInt_inj.mp q)
      have t24 : ¬ y.toInt = 24 := fun q => s24 (Int32.toInt_inj.mp q)
      have t25 : ¬ y.toInt = 25 := fun q => s25 (Int32.toInt_inj.mp q)
      have t26 : ¬ y.toInt = 26 := fun q => s26 (Int32.toInt_inj.mp q)
      have t27 : ¬ y.toInt = 27 := fun q => s27 (Int32.toInt_inj.mp q)
      have t28 : ¬ y.toInt = 28 := fun q => s28 (Int32.toInt_inj.mp q)
      have t29 : ¬ y.toInt = 29 := fun q => s29 (Int32.toInt_inj.mp q)
      have t30 : ¬ y.toInt = 30 := fun q => s30 (Int32.toInt_inj.mp q)
      have t31 : ¬ y.toInt = 31 := fun q => s31 (Int32.toInt_inj.mp q)
      have t32 : ¬ y.toInt = 32 := fun q => s32 (Int32.toInt_inj.mp q)
      have t33 : ¬ y.toInt = 33 := fun q => s33 (Int32.toInt_inj.mp q)
      have t34 : ¬ y.toInt = 34 := fun q => s34 (Int32.toInt_inj.mp q)
      have t35 : ¬ y.toInt = 35 := fun q => s35 (Int32.toInt_inj.mp q)
      have t36 : ¬ y.toInt = 36 := fun q => s36 (Int32.toInt_inj.mp q)
      exact r_tableOut (pc := 33) 1397 dL_law_33 (by omega) (by decide) (TL0 (WI 0 k) (fun _ q => q.up))
set_option maxHeartbeats 8000000 in
theorem law_aw {L : Nat} {xs : Nat → Int32} (hL : L ≤ 3072) : AW (fun X => X = some (L, xs)) room_1 mL_law 0 0 0 [some (.float 0), none, none, none] [] (fun h => h.1 = 0) (fun v _ => v = some (.int 1)) := by
  refine r_new (pc := 0) (n := 0) (P' := fun g => g.1 = 0 + 1 ∧ g.2 0 = .inr (.inr (10, [.null, .null, .null, .null, .null, .null, .null, .null, .int 0]))) tyX11 dL_law_0 hX11 tyX11_ok eX11 cL_7 aX11 zX11 dfX11 (Nat.le_of_ble_eq_true rfl) (Nat.le_of_ble_eq_true rfl) (fun _ q => q) (fun h q => ⟨by show h.1 + 1 = 0 + 1; rw [q], if_pos q.symm⟩) ?_
  refine r_dup (pc := 3) dL_law_3 rfl ?_
  refine r_ini (pc := 4) (μ' := mX11_init) (P' := fun g => GA 0 K0 [] [] [] [] [] 1 (K0, [], [], [], [], [], 1) (fun _ => 0) (fun _ => []) [] (List.replicate 6 0) 0 g ∧ g.1 = 0 + 95) dL_law_4 nL_9 iX11_init rfl rfl kX11_init rfl rfl ⟨(Nat.le_of_ble_eq_true rfl), (Nat.le_of_ble_eq_true rfl)⟩ rfl ⟨(Nat.le_of_ble_eq_true rfl), (Nat.le_of_ble_eq_true rfl)⟩ (fun h q => (ct_G_init (o := 0) q.1.symm q.2).mono (fun v g2 x => ⟨x.1, x.2.1, x.2.2.1⟩)) ?_
  refine r_astore_n (pc := 7) dL_law_7 rfl (Nat.le_of_ble_eq_true rfl) rfl ?_
  dsimp only [lset]
  refine r_new (pc := 8) (n := 0 + 95) (P' := fun g => GA 0 K0 [] [] [] [] [] 1 (K0, [], [], [], [], [], 1) (fun _ => 0) (fun _ => []) [] (List.replicate 6 0) 0 g ∧ (g.1 = 0 + 95 + 1 ∧ g.2 (0 + 95) = .inr (.inr (11, bF (0 + 95) 0)))) tyX12 dL_law_8 hX12 tyX12_ok eX12 cL_10 aX12 zX12 dfX12 (Nat.le_of_ble_eq_true rfl) (Nat.le_of_ble_eq_true rfl) (fun _ q => q.2) (fun h q => ⟨GA_gr q.1 ⟨Nat.le_succ _, fun j h1 h2 => if_neg (by rw [q.2]; omega)⟩, by show h.1 + 1 = _; rw [q.2], if_pos q.2.symm⟩) ?_
  refine r_dup (pc := 11) dL_law_11 rfl ?_
  refine r_ini (pc := 12) (μ' := mX12_init) (P' := WI 0 0) dL_law_12 nL_12 iX12_init rfl rfl kX12_init rfl rfl ⟨(Nat.le_of_ble_eq_true rfl), (Nat.le_of_ble_eq_true rfl)⟩ rfl ⟨(Nat.le_of_ble_eq_true rfl), (Nat.le_of_ble_eq_true rfl)⟩ (fun h q => (ct_M_init (m := 0 + 95) (g := h) q.2.1.symm q.2.2).mono (fun v g2 x => ⟨x.1, law_init q.1 q.2.1 x.2⟩)) ?_
  refine r_astore_n (pc := 15) dL_law_15 rfl (Nat.le_of_ble_eq_true rfl) rfl ?_
  dsimp only [lset]
  refine r_iconst (pc := 16) (v := 0) dL_law_16 (by decide) ?_
  refine r_istore_n (pc := 17) dL_law_17 rfl (Nat.le_of_ble_eq_true rfl) rfl ?_
  dsimp only [lset]
  exact law_loop hL 600 0 rfl (Nat.zero_le _)
