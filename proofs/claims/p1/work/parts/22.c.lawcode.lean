theorem d_L_law_267 : decode b_L_law 267 = .ok (.lcmp, 1) := by decide +kernel
theorem d_L_law_268 : decode b_L_law 268 = .ok (.ifCond .eq (5), 3) := by decide +kernel
theorem d_L_law_271 : decode b_L_law 271 = .ok (.iconst 0, 1) := by decide +kernel
theorem d_L_law_272 : decode b_L_law 272 = .ok (.ireturn, 1) := by decide +kernel
theorem d_L_law_273 : decode b_L_law 273 = .ok (.goto (902), 3) := by decide +kernel
theorem d_L_law_276 : decode b_L_law 276 = .ok (.aload_n 1, 1) := by decide +kernel
theorem d_L_law_277 : decode b_L_law 277 = .ok (.aload_n 0, 1) := by decide +kernel
theorem d_L_law_278 : decode b_L_law 278 = .ok (.iload 4, 2) := by decide +kernel
theorem d_L_law_280 : decode b_L_law 280 = .ok (.iconst 1, 1) := by decide +kernel
theorem d_L_law_281 : decode b_L_law 281 = .ok (.iadd, 1) := by decide +kernel
theorem d_L_law_282 : decode b_L_law 282 = .ok (.iaload, 1) := by decide +kernel
theorem d_L_law_283 : decode b_L_law 283 = .ok (.aload_n 0, 1) := by decide +kernel
theorem d_L_law_284 : decode b_L_law 284 = .ok (.iload 4, 2) := by decide +kernel
theorem d_L_law_286 : decode b_L_law 286 = .ok (.iconst 2, 1) := by decide +kernel
theorem d_L_law_287 : decode b_L_law 287 = .ok (.iadd, 1) := by decide +kernel
theorem d_L_law_288 : decode b_L_law 288 = .ok (.iaload, 1) := by decide +kernel
theorem d_L_law_289 : decode b_L_law 289 = .ok (.aload_n 3, 1) := by decide +kernel
theorem d_L_law_290 : decode b_L_law 290 = .ok (.invokestatic 89, 3) := by decide +kernel
theorem d_L_law_293 : decode b_L_law 293 = .ok (.istore 5, 2) := by decide +kernel
theorem d_L_law_295 : decode b_L_law 295 = .ok (.aload_n 2, 1) := by decide +kernel
theorem d_L_law_296 : decode b_L_law 296 = .ok (.aload_n 0, 1) := by decide +kernel
theorem d_L_law_297 : decode b_L_law 297 = .ok (.iload 4, 2) := by decide +kernel
theorem d_L_law_299 : decode b_L_law 299 = .ok (.iconst 1, 1) := by decide +kernel
theorem d_L_law_300 : decode b_L_law 300 = .ok (.iadd, 1) := by decide +kernel
theorem d_L_law_301 : decode b_L_law 301 = .ok (.iaload, 1) := by decide +kernel
theorem d_L_law_302 : decode b_L_law 302 = .ok (.aload_n 0, 1) := by decide +kernel
theorem d_L_law_303 : decode b_L_law 303 = .ok (.iload 4, 2) := by decide +kernel
theorem d_L_law_305 : decode b_L_law 305 = .ok (.iconst 2, 1) := by decide +kernel
theorem d_L_law_306 : decode b_L_law 306 = .ok (.iadd, 1) := by decide +kernel
theorem d_L_law_307 : decode b_L_law 307 = .ok (.iaload, 1) := by decide +kernel
theorem d_L_law_308 : decode b_L_law 308 = .ok (.invokevirtual 92, 3) := by decide +kernel
theorem d_L_law_311 : decode b_L_law 311 = .ok (.istore 6, 2) := by decide +kernel
theorem d_L_law_313 : decode b_L_law 313 = .ok (.aload_n 2, 1) := by decide +kernel
theorem d_L_law_314 : decode b_L_law 314 = .ok (.invokevirtual 82, 3) := by decide +kernel
theorem d_L_law_317 : decode b_L_law 317 = .ok (.iload 5, 2) := by decide +kernel
theorem d_L_law_319 : decode b_L_law 319 = .ok (.if_icmp .eq (5), 3) := by decide +kernel
theorem d_L_law_322 : decode b_L_law 322 = .ok (.iconst 0, 1) := by decide +kernel
theorem d_L_law_323 : decode b_L_law 323 = .ok (.ireturn, 1) := by decide +kernel
theorem d_L_law_324 : decode b_L_law 324 = .ok (.iload 5, 2) := by decide +kernel
theorem d_L_law_326 : decode b_L_law 326 = .ok (.ifCond .ne (15), 3) := by decide +kernel
theorem d_L_law_329 : decode b_L_law 329 = .ok (.aload_n 3, 1) := by decide +kernel
theorem d_L_law_330 : decode b_L_law 330 = .ok (.iconst 0, 1) := by decide +kernel
theorem d_L_law_331 : decode b_L_law 331 = .ok (.laload, 1) := by decide +kernel
theorem d_L_law_332 : decode b_L_law 332 = .ok (.iload 6, 2) := by decide +kernel
theorem d_L_law_334 : decode b_L_law 334 = .ok (.i2l, 1) := by decide +kernel
theorem d_L_law_335 : decode b_L_law 335 = .ok (.lcmp, 1) := by decide +kernel
theorem d_L_law_336 : decode b_L_law 336 = .ok (.ifCond .eq (5), 3) := by decide +kernel
theorem d_L_law_339 : decode b_L_law 339 = .ok (.iconst 0, 1) := by decide +kernel
theorem d_L_law_340 : decode b_L_law 340 = .ok (.ireturn, 1) := by decide +kernel
theorem d_L_law_341 : decode b_L_law 341 = .ok (.goto (834), 3) := by decide +kernel
theorem d_L_law_344 : decode b_L_law 344 = .ok (.aload_n 1, 1) := by decide +kernel
theorem d_L_law_345 : decode b_L_law 345 = .ok (.aload_n 3, 1) := by decide +kernel
theorem d_L_law_346 : decode b_L_law 346 = .ok (.invokestatic 93, 3) := by decide +kernel
theorem d_L_law_349 : decode b_L_law 349 = .ok (.istore 5, 2) := by decide +kernel
theorem d_L_law_351 : decode b_L_law 351 = .ok (.aload_n 2, 1) := by decide +kernel
theorem d_L_law_352 : decode b_L_law 352 = .ok (.invokevirtual 96, 3) := by decide +kernel
theorem d_L_law_355 : decode b_L_law 355 = .ok (.istore 6, 2) := by decide +kernel
theorem d_L_law_357 : decode b_L_law 357 = .ok (.aload_n 2, 1) := by decide +kernel
theorem d_L_law_358 : decode b_L_law 358 = .ok (.invokevirtual 82, 3) := by decide +kernel
theorem d_L_law_361 : decode b_L_law 361 = .ok (.iload 5, 2) := by decide +kernel
