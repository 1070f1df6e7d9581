theorem d_Law_law_261 : decode b_Law_law 261 = .ok (.iadd, 1) := by decide +kernel
theorem d_Law_law_262 : decode b_Law_law 262 = .ok (.iaload, 1) := by decide +kernel
theorem d_Law_law_263 : decode b_Law_law 263 = .ok (.aload_n 0, 1) := by decide +kernel
theorem d_Law_law_264 : decode b_Law_law 264 = .ok (.iload 4, 2) := by decide +kernel
theorem d_Law_law_266 : decode b_Law_law 266 = .ok (.iconst 2, 1) := by decide +kernel
theorem d_Law_law_267 : decode b_Law_law 267 = .ok (.iadd, 1) := by decide +kernel
theorem d_Law_law_268 : decode b_Law_law 268 = .ok (.iaload, 1) := by decide +kernel
theorem d_Law_law_269 : decode b_Law_law 269 = .ok (.aload_n 0, 1) := by decide +kernel
theorem d_Law_law_270 : decode b_Law_law 270 = .ok (.iload 4, 2) := by decide +kernel
theorem d_Law_law_272 : decode b_Law_law 272 = .ok (.iconst 3, 1) := by decide +kernel
theorem d_Law_law_273 : decode b_Law_law 273 = .ok (.iadd, 1) := by decide +kernel
theorem d_Law_law_274 : decode b_Law_law 274 = .ok (.iaload, 1) := by decide +kernel
theorem d_Law_law_275 : decode b_Law_law 275 = .ok (.ifCond .eq 7, 3) := by decide +kernel
theorem d_Law_law_278 : decode b_Law_law 278 = .ok (.iconst 1, 1) := by decide +kernel
theorem d_Law_law_279 : decode b_Law_law 279 = .ok (.goto 4, 3) := by decide +kernel
theorem d_Law_law_282 : decode b_Law_law 282 = .ok (.iconst 0, 1) := by decide +kernel
theorem d_Law_law_283 : decode b_Law_law 283 = .ok (.invokevirtual 43, 3) := by decide +kernel
theorem d_Law_law_286 : decode b_Law_law 286 = .ok (.if_icmp .eq 510, 3) := by decide +kernel
theorem d_Law_law_291 : decode b_Law_law 291 = .ok (.aload_n 1, 1) := by decide +kernel
theorem d_Law_law_292 : decode b_Law_law 292 = .ok (.aload_n 0, 1) := by decide +kernel
theorem d_Law_law_293 : decode b_Law_law 293 = .ok (.iload 4, 2) := by decide +kernel
theorem d_Law_law_295 : decode b_Law_law 295 = .ok (.iconst 1, 1) := by decide +kernel
theorem d_Law_law_296 : decode b_Law_law 296 = .ok (.iadd, 1) := by decide +kernel
theorem d_Law_law_297 : decode b_Law_law 297 = .ok (.iaload, 1) := by decide +kernel
theorem d_Law_law_298 : decode b_Law_law 298 = .ok (.aload_n 0, 1) := by decide +kernel
theorem d_Law_law_299 : decode b_Law_law 299 = .ok (.iload 4, 2) := by decide +kernel
theorem d_Law_law_301 : decode b_Law_law 301 = .ok (.iconst 2, 1) := by decide +kernel
theorem d_Law_law_302 : decode b_Law_law 302 = .ok (.iadd, 1) := by decide +kernel
theorem d_Law_law_303 : decode b_Law_law 303 = .ok (.iaload, 1) := by decide +kernel
theorem d_Law_law_304 : decode b_Law_law 304 = .ok (.invokevirtual 44, 3) := by decide +kernel
theorem d_Law_law_307 : decode b_Law_law 307 = .ok (.aload_n 2, 1) := by decide +kernel
theorem d_Law_law_308 : decode b_Law_law 308 = .ok (.aload_n 0, 1) := by decide +kernel
theorem d_Law_law_309 : decode b_Law_law 309 = .ok (.iload 4, 2) := by decide +kernel
theorem d_Law_law_311 : decode b_Law_law 311 = .ok (.iconst 1, 1) := by decide +kernel
theorem d_Law_law_312 : decode b_Law_law 312 = .ok (.iadd, 1) := by decide +kernel
theorem d_Law_law_313 : decode b_Law_law 313 = .ok (.iaload, 1) := by decide +kernel
theorem d_Law_law_314 : decode b_Law_law 314 = .ok (.aload_n 0, 1) := by decide +kernel
theorem d_Law_law_315 : decode b_Law_law 315 = .ok (.iload 4, 2) := by decide +kernel
theorem d_Law_law_317 : decode b_Law_law 317 = .ok (.iconst 2, 1) := by decide +kernel
theorem d_Law_law_318 : decode b_Law_law 318 = .ok (.iadd, 1) := by decide +kernel
theorem d_Law_law_319 : decode b_Law_law 319 = .ok (.iaload, 1) := by decide +kernel
theorem d_Law_law_320 : decode b_Law_law 320 = .ok (.invokevirtual 48, 3) := by decide +kernel
theorem d_Law_law_323 : decode b_Law_law 323 = .ok (.if_icmp .eq 473, 3) := by decide +kernel
theorem d_Law_law_328 : decode b_Law_law 328 = .ok (.aload_n 1, 1) := by decide +kernel
theorem d_Law_law_329 : decode b_Law_law 329 = .ok (.aload_n 0, 1) := by decide +kernel
theorem d_Law_law_330 : decode b_Law_law 330 = .ok (.iload 4, 2) := by decide +kernel
theorem d_Law_law_332 : decode b_Law_law 332 = .ok (.iconst 1, 1) := by decide +kernel
theorem d_Law_law_333 : decode b_Law_law 333 = .ok (.iadd, 1) := by decide +kernel
theorem d_Law_law_334 : decode b_Law_law 334 = .ok (.iaload, 1) := by decide +kernel
theorem d_Law_law_335 : decode b_Law_law 335 = .ok (.aload_n 0, 1) := by decide +kernel
theorem d_Law_law_336 : decode b_Law_law 336 = .ok (.iload 4, 2) := by decide +kernel
theorem d_Law_law_338 : decode b_Law_law 338 = .ok (.iconst 2, 1) := by decide +kernel
theorem d_Law_law_339 : decode b_Law_law 339 = .ok (.iadd, 1) := by decide +kernel
theorem d_Law_law_340 : decode b_Law_law 340 = .ok (.iaload, 1) := by decide +kernel
theorem d_Law_law_341 : decode b_Law_law 341 = .ok (.aload_n 0, 1) := by decide +kernel
theorem d_Law_law_342 : decode b_Law_law 342 = .ok (.iload 4, 2) := by decide +kernel
theorem d_Law_law_344 : decode b_Law_law 344 = .ok (.iconst 3, 1) := by decide +kernel
theorem d_Law_law_345 : decode b_Law_law 345 = .ok (.iadd, 1) := by decide +kernel
theorem d_Law_law_346 : decode b_Law_law 346 = .ok (.iaload, 1) := by decide +kernel
theorem d_Law_law_347 : decode b_Law_law 347 = .ok (.aload_n 0, 1) := by decide +kernel
