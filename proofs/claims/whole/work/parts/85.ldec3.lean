/-! Rows of the law. -/
theorem d_LW_law_248 : decode code 248 = .ok (.iload_n 3, 1) := by decide +kernel
theorem d_LW_law_249 : decode code 249 = .ok (.iconst 1, 1) := by decide +kernel
theorem d_LW_law_250 : decode code 250 = .ok (.iadd, 1) := by decide +kernel
theorem d_LW_law_251 : decode code 251 = .ok (.iaload, 1) := by decide +kernel
theorem d_LW_law_252 : decode code 252 = .ok (.aload_n 0, 1) := by decide +kernel
theorem d_LW_law_253 : decode code 253 = .ok (.iload_n 3, 1) := by decide +kernel
theorem d_LW_law_254 : decode code 254 = .ok (.iconst 2, 1) := by decide +kernel
theorem d_LW_law_255 : decode code 255 = .ok (.iadd, 1) := by decide +kernel
theorem d_LW_law_256 : decode code 256 = .ok (.iaload, 1) := by decide +kernel
theorem d_LW_law_257 : decode code 257 = .ok (.invokevirtual 35, 3) := by decide +kernel
theorem d_LW_law_260 : decode code 260 = .ok (.if_icmp .eq 343, 3) := by decide +kernel
theorem d_LW_law_263 : decode code 263 = .ok (.iconst 0, 1) := by decide +kernel
theorem d_LW_law_264 : decode code 264 = .ok (.ireturn, 1) := by decide +kernel
theorem d_LW_law_265 : decode code 265 = .ok (.aload_n 1, 1) := by decide +kernel
theorem d_LW_law_266 : decode code 266 = .ok (.invokevirtual 36, 3) := by decide +kernel
theorem d_LW_law_269 : decode code 269 = .ok (.aload_n 2, 1) := by decide +kernel
theorem d_LW_law_270 : decode code 270 = .ok (.invokevirtual 40, 3) := by decide +kernel
theorem d_LW_law_273 : decode code 273 = .ok (.if_icmp .eq 330, 3) := by decide +kernel
theorem d_LW_law_276 : decode code 276 = .ok (.iconst 0, 1) := by decide +kernel
theorem d_LW_law_277 : decode code 277 = .ok (.ireturn, 1) := by decide +kernel
theorem d_LW_law_278 : decode code 278 = .ok (.aload_n 1, 1) := by decide +kernel
theorem d_LW_law_279 : decode code 279 = .ok (.invokevirtual 41, 3) := by decide +kernel
theorem d_LW_law_282 : decode code 282 = .ok (.aload_n 2, 1) := by decide +kernel
theorem d_LW_law_283 : decode code 283 = .ok (.invokevirtual 44, 3) := by decide +kernel
theorem d_LW_law_286 : decode code 286 = .ok (.if_icmp .eq 317, 3) := by decide +kernel
theorem d_LW_law_289 : decode code 289 = .ok (.iconst 0, 1) := by decide +kernel
theorem d_LW_law_290 : decode code 290 = .ok (.ireturn, 1) := by decide +kernel
theorem d_LW_law_291 : decode code 291 = .ok (.aload_n 1, 1) := by decide +kernel
theorem d_LW_law_292 : decode code 292 = .ok (.invokevirtual 45, 3) := by decide +kernel
theorem d_LW_law_295 : decode code 295 = .ok (.aload_n 2, 1) := by decide +kernel
theorem d_LW_law_296 : decode code 296 = .ok (.invokevirtual 48, 3) := by decide +kernel
theorem d_LW_law_299 : decode code 299 = .ok (.if_icmp .eq 304, 3) := by decide +kernel
theorem d_LW_law_302 : decode code 302 = .ok (.iconst 0, 1) := by decide +kernel
theorem d_LW_law_303 : decode code 303 = .ok (.ireturn, 1) := by decide +kernel
theorem d_LW_law_304 : decode code 304 = .ok (.aload_n 1, 1) := by decide +kernel
theorem d_LW_law_305 : decode code 305 = .ok (.invokevirtual 49, 3) := by decide +kernel
theorem d_LW_law_308 : decode code 308 = .ok (.aload_n 2, 1) := by decide +kernel
theorem d_LW_law_309 : decode code 309 = .ok (.invokevirtual 52, 3) := by decide +kernel
theorem d_LW_law_312 : decode code 312 = .ok (.if_icmp .eq 291, 3) := by decide +kernel
theorem d_LW_law_315 : decode code 315 = .ok (.iconst 0, 1) := by decide +kernel
theorem d_LW_law_316 : decode code 316 = .ok (.ireturn, 1) := by decide +kernel
theorem d_LW_law_317 : decode code 317 = .ok (.aload_n 1, 1) := by decide +kernel
theorem d_LW_law_318 : decode code 318 = .ok (.invokevirtual 53, 3) := by decide +kernel
theorem d_LW_law_321 : decode code 321 = .ok (.aload_n 2, 1) := by decide +kernel
theorem d_LW_law_322 : decode code 322 = .ok (.invokevirtual 56, 3) := by decide +kernel
theorem d_LW_law_325 : decode code 325 = .ok (.if_icmp .eq 278, 3) := by decide +kernel
theorem d_LW_law_328 : decode code 328 = .ok (.iconst 0, 1) := by decide +kernel
theorem d_LW_law_329 : decode code 329 = .ok (.ireturn, 1) := by decide +kernel
theorem d_LW_law_330 : decode code 330 = .ok (.aload_n 1, 1) := by decide +kernel
theorem d_LW_law_331 : decode code 331 = .ok (.aload_n 0, 1) := by decide +kernel
theorem d_LW_law_332 : decode code 332 = .ok (.iload_n 3, 1) := by decide +kernel
theorem d_LW_law_333 : decode code 333 = .ok (.iconst 1, 1) := by decide +kernel
theorem d_LW_law_334 : decode code 334 = .ok (.iadd, 1) := by decide +kernel
theorem d_LW_law_335 : decode code 335 = .ok (.iaload, 1) := by decide +kernel
theorem d_LW_law_336 : decode code 336 = .ok (.invokevirtual 57, 3) := by decide +kernel
theorem d_LW_law_339 : decode code 339 = .ok (.aload_n 2, 1) := by decide +kernel
theorem d_LW_law_340 : decode code 340 = .ok (.aload_n 0, 1) := by decide +kernel
theorem d_LW_law_341 : decode code 341 = .ok (.iload_n 3, 1) := by decide +kernel
theorem d_LW_law_342 : decode code 342 = .ok (.iconst 1, 1) := by decide +kernel
theorem d_LW_law_343 : decode code 343 = .ok (.iadd, 1) := by decide +kernel
