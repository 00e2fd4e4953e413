/-! The law's decode rows, 2 of 10. -/
theorem d_Law_law_245 : decode b_Law_law 245 = .ok (.iaload, 1) := by decide +kernel
theorem d_Law_law_246 : decode b_Law_law 246 = .ok (.aload_n 0, 1) := by decide +kernel
theorem d_Law_law_247 : decode b_Law_law 247 = .ok (.iload 4, 2) := by decide +kernel
theorem d_Law_law_249 : decode b_Law_law 249 = .ok (.iconst 2, 1) := by decide +kernel
theorem d_Law_law_250 : decode b_Law_law 250 = .ok (.iadd, 1) := by decide +kernel
theorem d_Law_law_251 : decode b_Law_law 251 = .ok (.iaload, 1) := by decide +kernel
theorem d_Law_law_252 : decode b_Law_law 252 = .ok (.aload_n 0, 1) := by decide +kernel
theorem d_Law_law_253 : decode b_Law_law 253 = .ok (.iload 4, 2) := by decide +kernel
theorem d_Law_law_255 : decode b_Law_law 255 = .ok (.iconst 3, 1) := by decide +kernel
theorem d_Law_law_256 : decode b_Law_law 256 = .ok (.iadd, 1) := by decide +kernel
theorem d_Law_law_257 : decode b_Law_law 257 = .ok (.iaload, 1) := by decide +kernel
theorem d_Law_law_258 : decode b_Law_law 258 = .ok (.aload_n 0, 1) := by decide +kernel
theorem d_Law_law_259 : decode b_Law_law 259 = .ok (.iload 4, 2) := by decide +kernel
theorem d_Law_law_261 : decode b_Law_law 261 = .ok (.iconst 4, 1) := by decide +kernel
theorem d_Law_law_262 : decode b_Law_law 262 = .ok (.iadd, 1) := by decide +kernel
theorem d_Law_law_263 : decode b_Law_law 263 = .ok (.iaload, 1) := by decide +kernel
theorem d_Law_law_264 : decode b_Law_law 264 = .ok (.invokevirtual 104, 3) := by decide +kernel
theorem d_Law_law_267 : decode b_Law_law 267 = .ok (.istore 6, 2) := by decide +kernel
theorem d_Law_law_269 : decode b_Law_law 269 = .ok (.aload_n 2, 1) := by decide +kernel
theorem d_Law_law_270 : decode b_Law_law 270 = .ok (.invokevirtual 97, 3) := by decide +kernel
theorem d_Law_law_273 : decode b_Law_law 273 = .ok (.iload 5, 2) := by decide +kernel
theorem d_Law_law_275 : decode b_Law_law 275 = .ok (.if_icmp .eq 5, 3) := by decide +kernel
theorem d_Law_law_280 : decode b_Law_law 280 = .ok (.iload 5, 2) := by decide +kernel
theorem d_Law_law_282 : decode b_Law_law 282 = .ok (.ifCond .ne 15, 3) := by decide +kernel
theorem d_Law_law_285 : decode b_Law_law 285 = .ok (.aload_n 3, 1) := by decide +kernel
theorem d_Law_law_286 : decode b_Law_law 286 = .ok (.iconst 0, 1) := by decide +kernel
theorem d_Law_law_287 : decode b_Law_law 287 = .ok (.laload, 1) := by decide +kernel
theorem d_Law_law_288 : decode b_Law_law 288 = .ok (.iload 6, 2) := by decide +kernel
theorem d_Law_law_290 : decode b_Law_law 290 = .ok (.i2l, 1) := by decide +kernel
theorem d_Law_law_291 : decode b_Law_law 291 = .ok (.lcmp, 1) := by decide +kernel
theorem d_Law_law_292 : decode b_Law_law 292 = .ok (.ifCond .eq 5, 3) := by decide +kernel
theorem d_Law_law_297 : decode b_Law_law 297 = .ok (.goto 1351, 3) := by decide +kernel
theorem d_Law_law_300 : decode b_Law_law 300 = .ok (.aload_n 1, 1) := by decide +kernel
theorem d_Law_law_301 : decode b_Law_law 301 = .ok (.aload_n 0, 1) := by decide +kernel
theorem d_Law_law_302 : decode b_Law_law 302 = .ok (.iload 4, 2) := by decide +kernel
theorem d_Law_law_304 : decode b_Law_law 304 = .ok (.iconst 1, 1) := by decide +kernel
theorem d_Law_law_305 : decode b_Law_law 305 = .ok (.iadd, 1) := by decide +kernel
theorem d_Law_law_306 : decode b_Law_law 306 = .ok (.iaload, 1) := by decide +kernel
theorem d_Law_law_307 : decode b_Law_law 307 = .ok (.aload_n 0, 1) := by decide +kernel
theorem d_Law_law_308 : decode b_Law_law 308 = .ok (.iload 4, 2) := by decide +kernel
theorem d_Law_law_310 : decode b_Law_law 310 = .ok (.iconst 2, 1) := by decide +kernel
theorem d_Law_law_311 : decode b_Law_law 311 = .ok (.iadd, 1) := by decide +kernel
theorem d_Law_law_312 : decode b_Law_law 312 = .ok (.iaload, 1) := by decide +kernel
theorem d_Law_law_313 : decode b_Law_law 313 = .ok (.aload_n 0, 1) := by decide +kernel
theorem d_Law_law_314 : decode b_Law_law 314 = .ok (.iload 4, 2) := by decide +kernel
theorem d_Law_law_316 : decode b_Law_law 316 = .ok (.iconst 3, 1) := by decide +kernel
theorem d_Law_law_317 : decode b_Law_law 317 = .ok (.iadd, 1) := by decide +kernel
theorem d_Law_law_318 : decode b_Law_law 318 = .ok (.iaload, 1) := by decide +kernel
theorem d_Law_law_319 : decode b_Law_law 319 = .ok (.aload_n 0, 1) := by decide +kernel
theorem d_Law_law_320 : decode b_Law_law 320 = .ok (.iload 4, 2) := by decide +kernel
theorem d_Law_law_322 : decode b_Law_law 322 = .ok (.iconst 4, 1) := by decide +kernel
theorem d_Law_law_323 : decode b_Law_law 323 = .ok (.iadd, 1) := by decide +kernel
theorem d_Law_law_324 : decode b_Law_law 324 = .ok (.iaload, 1) := by decide +kernel
theorem d_Law_law_325 : decode b_Law_law 325 = .ok (.aload_n 3, 1) := by decide +kernel
theorem d_Law_law_326 : decode b_Law_law 326 = .ok (.invokestatic 105, 3) := by decide +kernel
theorem d_Law_law_329 : decode b_Law_law 329 = .ok (.istore 5, 2) := by decide +kernel
theorem d_Law_law_331 : decode b_Law_law 331 = .ok (.aload_n 2, 1) := by decide +kernel
theorem d_Law_law_332 : decode b_Law_law 332 = .ok (.aload_n 0, 1) := by decide +kernel
theorem d_Law_law_333 : decode b_Law_law 333 = .ok (.iload 4, 2) := by decide +kernel
theorem d_Law_law_335 : decode b_Law_law 335 = .ok (.iconst 1, 1) := by decide +kernel
theorem d_Law_law_336 : decode b_Law_law 336 = .ok (.iadd, 1) := by decide +kernel
theorem d_Law_law_337 : decode b_Law_law 337 = .ok (.iaload, 1) := by decide +kernel
theorem d_Law_law_338 : decode b_Law_law 338 = .ok (.aload_n 0, 1) := by decide +kernel
theorem d_Law_law_339 : decode b_Law_law 339 = .ok (.iload 4, 2) := by decide +kernel
theorem d_Law_law_341 : decode b_Law_law 341 = .ok (.iconst 2, 1) := by decide +kernel
theorem d_Law_law_342 : decode b_Law_law 342 = .ok (.iadd, 1) := by decide +kernel
theorem d_Law_law_343 : decode b_Law_law 343 = .ok (.iaload, 1) := by decide +kernel
theorem d_Law_law_344 : decode b_Law_law 344 = .ok (.aload_n 0, 1) := by decide +kernel
theorem d_Law_law_345 : decode b_Law_law 345 = .ok (.iload 4, 2) := by decide +kernel
theorem d_Law_law_347 : decode b_Law_law 347 = .ok (.iconst 3, 1) := by decide +kernel
theorem d_Law_law_348 : decode b_Law_law 348 = .ok (.iadd, 1) := by decide +kernel
theorem d_Law_law_349 : decode b_Law_law 349 = .ok (.iaload, 1) := by decide +kernel
theorem d_Law_law_350 : decode b_Law_law 350 = .ok (.aload_n 0, 1) := by decide +kernel
theorem d_Law_law_351 : decode b_Law_law 351 = .ok (.iload 4, 2) := by decide +kernel
theorem d_Law_law_353 : decode b_Law_law 353 = .ok (.iconst 4, 1) := by decide +kernel
theorem d_Law_law_354 : decode b_Law_law 354 = .ok (.iadd, 1) := by decide +kernel
theorem d_Law_law_355 : decode b_Law_law 355 = .ok (.iaload, 1) := by decide +kernel
theorem d_Law_law_356 : decode b_Law_law 356 = .ok (.invokevirtual 107, 3) := by decide +kernel
theorem d_Law_law_359 : decode b_Law_law 359 = .ok (.istore 6, 2) := by decide +kernel
theorem d_Law_law_361 : decode b_Law_law 361 = .ok (.aload_n 2, 1) := by decide +kernel
theorem d_Law_law_362 : decode b_Law_law 362 = .ok (.invokevirtual 97, 3) := by decide +kernel
theorem d_Law_law_365 : decode b_Law_law 365 = .ok (.iload 5, 2) := by decide +kernel
theorem d_Law_law_367 : decode b_Law_law 367 = .ok (.if_icmp .eq 5, 3) := by decide +kernel
theorem d_Law_law_372 : decode b_Law_law 372 = .ok (.iload 5, 2) := by decide +kernel
theorem d_Law_law_374 : decode b_Law_law 374 = .ok (.ifCond .ne 15, 3) := by decide +kernel
theorem d_Law_law_377 : decode b_Law_law 377 = .ok (.aload_n 3, 1) := by decide +kernel
theorem d_Law_law_378 : decode b_Law_law 378 = .ok (.iconst 0, 1) := by decide +kernel
theorem d_Law_law_379 : decode b_Law_law 379 = .ok (.laload, 1) := by decide +kernel
theorem d_Law_law_380 : decode b_Law_law 380 = .ok (.iload 6, 2) := by decide +kernel
theorem d_Law_law_382 : decode b_Law_law 382 = .ok (.i2l, 1) := by decide +kernel
theorem d_Law_law_383 : decode b_Law_law 383 = .ok (.lcmp, 1) := by decide +kernel
theorem d_Law_law_384 : decode b_Law_law 384 = .ok (.ifCond .eq 5, 3) := by decide +kernel
theorem d_Law_law_389 : decode b_Law_law 389 = .ok (.goto 1259, 3) := by decide +kernel
theorem d_Law_law_392 : decode b_Law_law 392 = .ok (.aload_n 1, 1) := by decide +kernel
theorem d_Law_law_393 : decode b_Law_law 393 = .ok (.aload_n 0, 1) := by decide +kernel
