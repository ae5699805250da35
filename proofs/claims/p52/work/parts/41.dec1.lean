theorem dL_law_196 : decode code 196 = .ok (.invokevirtual 64, 3) := by decide +kernel
theorem dL_law_199 : decode code 199 = .ok (.ifCond .ne 15, 3) := by decide +kernel
theorem dL_law_202 : decode code 202 = .ok (.aload_n 1, 1) := by decide +kernel
theorem dL_law_203 : decode code 203 = .ok (.iconst 1, 1) := by decide +kernel
theorem dL_law_204 : decode code 204 = .ok (.sipush 300, 3) := by decide +kernel
theorem dL_law_207 : decode code 207 = .ok (.iconst 0, 1) := by decide +kernel
theorem dL_law_208 : decode code 208 = .ok (.invokevirtual 64, 3) := by decide +kernel
theorem dL_law_211 : decode code 211 = .ok (.ifCond .eq 5, 3) := by decide +kernel
theorem dL_law_214 : decode code 214 = .ok (.iconst 0, 1) := by decide +kernel
theorem dL_law_215 : decode code 215 = .ok (.ireturn, 1) := by decide +kernel
theorem dL_law_216 : decode code 216 = .ok (.aload_n 0, 1) := by decide +kernel
theorem dL_law_217 : decode code 217 = .ok (.iconst 4, 1) := by decide +kernel
theorem dL_law_218 : decode code 218 = .ok (.iconst 2, 1) := by decide +kernel
theorem dL_law_219 : decode code 219 = .ok (.invokestatic 14, 3) := by decide +kernel
theorem dL_law_222 : decode code 222 = .ok (.ifCond .ne 7, 3) := by decide +kernel
theorem dL_law_225 : decode code 225 = .ok (.iconst 1, 1) := by decide +kernel
theorem dL_law_226 : decode code 226 = .ok (.goto 4, 3) := by decide +kernel
theorem dL_law_229 : decode code 229 = .ok (.iconst 0, 1) := by decide +kernel
theorem dL_law_230 : decode code 230 = .ok (.istore 6, 2) := by decide +kernel
theorem dL_law_232 : decode code 232 = .ok (.aload_n 1, 1) := by decide +kernel
theorem dL_law_233 : decode code 233 = .ok (.iconst 2, 1) := by decide +kernel
theorem dL_law_234 : decode code 234 = .ok (.invokevirtual 48, 3) := by decide +kernel
theorem dL_law_237 : decode code 237 = .ok (.bipush (-5), 2) := by decide +kernel
theorem dL_law_239 : decode code 239 = .ok (.if_icmp .ne 107, 3) := by decide +kernel
theorem dL_law_242 : decode code 242 = .ok (.aload_n 1, 1) := by decide +kernel
theorem dL_law_243 : decode code 243 = .ok (.iconst 2, 1) := by decide +kernel
theorem dL_law_244 : decode code 244 = .ok (.iconst 1, 1) := by decide +kernel
theorem dL_law_245 : decode code 245 = .ok (.invokevirtual 44, 3) := by decide +kernel
theorem dL_law_248 : decode code 248 = .ok (.iconst 1, 1) := by decide +kernel
theorem dL_law_249 : decode code 249 = .ok (.if_icmp .ne 97, 3) := by decide +kernel
theorem dL_law_252 : decode code 252 = .ok (.aload_n 1, 1) := by decide +kernel
theorem dL_law_253 : decode code 253 = .ok (.iload 5, 2) := by decide +kernel
theorem dL_law_255 : decode code 255 = .ok (.bipush 29, 2) := by decide +kernel
theorem dL_law_257 : decode code 257 = .ok (.iadd, 1) := by decide +kernel
theorem dL_law_258 : decode code 258 = .ok (.invokevirtual 54, 3) := by decide +kernel
theorem dL_law_261 : decode code 261 = .ok (.iload 5, 2) := by decide +kernel
theorem dL_law_263 : decode code 263 = .ok (.if_icmp .ne 83, 3) := by decide +kernel
theorem dL_law_266 : decode code 266 = .ok (.aload_n 1, 1) := by decide +kernel
theorem dL_law_267 : decode code 267 = .ok (.iconst 2, 1) := by decide +kernel
theorem dL_law_268 : decode code 268 = .ok (.invokevirtual 48, 3) := by decide +kernel
theorem dL_law_271 : decode code 271 = .ok (.bipush (-5), 2) := by decide +kernel
theorem dL_law_273 : decode code 273 = .ok (.if_icmp .ne 73, 3) := by decide +kernel
theorem dL_law_276 : decode code 276 = .ok (.aload_n 1, 1) := by decide +kernel
theorem dL_law_277 : decode code 277 = .ok (.iload 5, 2) := by decide +kernel
theorem dL_law_279 : decode code 279 = .ok (.bipush 30, 2) := by decide +kernel
theorem dL_law_281 : decode code 281 = .ok (.iadd, 1) := by decide +kernel
theorem dL_law_282 : decode code 282 = .ok (.invokevirtual 54, 3) := by decide +kernel
theorem dL_law_285 : decode code 285 = .ok (.iload 5, 2) := by decide +kernel
theorem dL_law_287 : decode code 287 = .ok (.bipush 29, 2) := by decide +kernel
theorem dL_law_289 : decode code 289 = .ok (.iadd, 1) := by decide +kernel
theorem dL_law_290 : decode code 290 = .ok (.if_icmp .ne 56, 3) := by decide +kernel
theorem dL_law_293 : decode code 293 = .ok (.aload_n 1, 1) := by decide +kernel
theorem dL_law_294 : decode code 294 = .ok (.iconst 2, 1) := by decide +kernel
theorem dL_law_295 : decode code 295 = .ok (.invokevirtual 48, 3) := by decide +kernel
theorem dL_law_298 : decode code 298 = .ok (.iconst 1, 1) := by decide +kernel
theorem dL_law_299 : decode code 299 = .ok (.if_icmp .ne 47, 3) := by decide +kernel
theorem dL_law_302 : decode code 302 = .ok (.aload_n 1, 1) := by decide +kernel
theorem dL_law_303 : decode code 303 = .ok (.iconst 2, 1) := by decide +kernel
theorem dL_law_304 : decode code 304 = .ok (.iconst 5, 1) := by decide +kernel
theorem dL_law_305 : decode code 305 = .ok (.invokevirtual 20, 3) := by decide +kernel
theorem dL_law_308 : decode code 308 = .ok (.iconst 2, 1) := by decide +kernel
theorem dL_law_309 : decode code 309 = .ok (.if_icmp .ne 37, 3) := by decide +kernel
theorem dL_law_312 : decode code 312 = .ok (.aload_n 1, 1) := by decide +kernel
theorem dL_law_313 : decode code 313 = .ok (.iconst 3, 1) := by decide +kernel
theorem dL_law_314 : decode code 314 = .ok (.iconst 5, 1) := by decide +kernel
theorem dL_law_315 : decode code 315 = .ok (.invokevirtual 20, 3) := by decide +kernel
theorem dL_law_318 : decode code 318 = .ok (.iconst 4, 1) := by decide +kernel
theorem dL_law_319 : decode code 319 = .ok (.if_icmp .ne 27, 3) := by decide +kernel
theorem dL_law_322 : decode code 322 = .ok (.aload_n 1, 1) := by decide +kernel
theorem dL_law_323 : decode code 323 = .ok (.iconst 3, 1) := by decide +kernel
theorem dL_law_324 : decode code 324 = .ok (.iconst 4, 1) := by decide +kernel
theorem dL_law_325 : decode code 325 = .ok (.invokevirtual 20, 3) := by decide +kernel
theorem dL_law_328 : decode code 328 = .ok (.iload 5, 2) := by decide +kernel
theorem dL_law_330 : decode code 330 = .ok (.bipush 30, 2) := by decide +kernel
theorem dL_law_332 : decode code 332 = .ok (.iadd, 1) := by decide +kernel
theorem dL_law_333 : decode code 333 = .ok (.if_icmp .ne 13, 3) := by decide +kernel
theorem dL_law_336 : decode code 336 = .ok (.aload_n 1, 1) := by decide +kernel
theorem dL_law_337 : decode code 337 = .ok (.iconst 0, 1) := by decide +kernel
theorem dL_law_338 : decode code 338 = .ok (.iconst (-1), 1) := by decide +kernel
theorem dL_law_339 : decode code 339 = .ok (.invokevirtual 67, 3) := by decide +kernel
theorem dL_law_342 : decode code 342 = .ok (.iconst 2, 1) := by decide +kernel
theorem dL_law_343 : decode code 343 = .ok (.if_icmp .eq 5, 3) := by decide +kernel
theorem dL_law_346 : decode code 346 = .ok (.iconst 0, 1) := by decide +kernel
theorem dL_law_347 : decode code 347 = .ok (.ireturn, 1) := by decide +kernel
theorem dL_law_348 : decode code 348 = .ok (.aload_n 0, 1) := by decide +kernel
theorem dL_law_349 : decode code 349 = .ok (.iconst 5, 1) := by decide +kernel
theorem dL_law_350 : decode code 350 = .ok (.sipush 250, 3) := by decide +kernel
theorem dL_law_353 : decode code 353 = .ok (.invokestatic 14, 3) := by decide +kernel
theorem dL_law_356 : decode code 356 = .ok (.istore 7, 2) := by decide +kernel
theorem dL_law_358 : decode code 358 = .ok (.aload_n 1, 1) := by decide +kernel
theorem dL_law_359 : decode code 359 = .ok (.iload 5, 2) := by decide +kernel
theorem dL_law_361 : decode code 361 = .ok (.bipush 30, 2) := by decide +kernel
theorem dL_law_363 : decode code 363 = .ok (.iadd, 1) := by decide +kernel
theorem dL_law_364 : decode code 364 = .ok (.iload 7, 2) := by decide +kernel
theorem dL_law_366 : decode code 366 = .ok (.iadd, 1) := by decide +kernel
theorem dL_law_367 : decode code 367 = .ok (.invokevirtual 54, 3) := by decide +kernel
theorem dL_law_370 : decode code 370 = .ok (.iload 5, 2) := by decide +kernel
theorem dL_law_372 : decode code 372 = .ok (.bipush 30, 2) := by decide +kernel
theorem dL_law_374 : decode code 374 = .ok (.iadd, 1) := by decide +kernel
theorem dL_law_375 : decode code 375 = .ok (.if_icmp .eq 5, 3) := by decide +kernel
theorem dL_law_378 : decode code 378 = .ok (.iconst 0, 1) := by decide +kernel
theorem dL_law_379 : decode code 379 = .ok (.ireturn, 1) := by decide +kernel
theorem dL_law_380 : decode code 380 = .ok (.aload_n 0, 1) := by decide +kernel
theorem dL_law_381 : decode code 381 = .ok (.bipush 6, 2) := by decide +kernel
theorem dL_law_383 : decode code 383 = .ok (.iconst 3, 1) := by decide +kernel
theorem dL_law_384 : decode code 384 = .ok (.invokestatic 14, 3) := by decide +kernel
theorem dL_law_387 : decode code 387 = .ok (.ifCond .ne 7, 3) := by decide +kernel
theorem dL_law_390 : decode code 390 = .ok (.iconst 1, 1) := by decide +kernel
theorem dL_law_391 : decode code 391 = .ok (.goto 4, 3) := by decide +kernel
theorem dL_law_394 : decode code 394 = .ok (.iconst 0, 1) := by decide +kernel
