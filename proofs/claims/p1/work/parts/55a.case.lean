theorem dL_law_180 : decode cL_law 180 = .ok (.aload_n 1, 1) := by decide +kernel
theorem dL_law_181 : decode cL_law 181 = .ok (.aload_n 0, 1) := by decide +kernel
theorem dL_law_182 : decode cL_law 182 = .ok (.iload 4, 2) := by decide +kernel
theorem dL_law_184 : decode cL_law 184 = .ok (.iconst 1, 1) := by decide +kernel
theorem dL_law_185 : decode cL_law 185 = .ok (.iadd, 1) := by decide +kernel
theorem dL_law_186 : decode cL_law 186 = .ok (.iaload, 1) := by decide +kernel
theorem dL_law_187 : decode cL_law 187 = .ok (.aload_n 0, 1) := by decide +kernel
theorem dL_law_188 : decode cL_law 188 = .ok (.iload 4, 2) := by decide +kernel
theorem dL_law_190 : decode cL_law 190 = .ok (.iconst 2, 1) := by decide +kernel
theorem dL_law_191 : decode cL_law 191 = .ok (.iadd, 1) := by decide +kernel
theorem dL_law_192 : decode cL_law 192 = .ok (.iaload, 1) := by decide +kernel
theorem dL_law_193 : decode cL_law 193 = .ok (.aload_n 0, 1) := by decide +kernel
theorem dL_law_194 : decode cL_law 194 = .ok (.iload 4, 2) := by decide +kernel
theorem dL_law_196 : decode cL_law 196 = .ok (.iconst 3, 1) := by decide +kernel
theorem dL_law_197 : decode cL_law 197 = .ok (.iadd, 1) := by decide +kernel
theorem dL_law_198 : decode cL_law 198 = .ok (.iaload, 1) := by decide +kernel
theorem dL_law_199 : decode cL_law 199 = .ok (.aload_n 3, 1) := by decide +kernel
theorem dL_law_200 : decode cL_law 200 = .ok (.invokestatic 107, 3) := by decide +kernel
theorem dL_law_203 : decode cL_law 203 = .ok (.istore 5, 2) := by decide +kernel
theorem dL_law_205 : decode cL_law 205 = .ok (.aload_n 2, 1) := by decide +kernel
theorem dL_law_206 : decode cL_law 206 = .ok (.aload_n 0, 1) := by decide +kernel
theorem dL_law_207 : decode cL_law 207 = .ok (.iload 4, 2) := by decide +kernel
theorem dL_law_209 : decode cL_law 209 = .ok (.iconst 1, 1) := by decide +kernel
theorem dL_law_210 : decode cL_law 210 = .ok (.iadd, 1) := by decide +kernel
theorem dL_law_211 : decode cL_law 211 = .ok (.iaload, 1) := by decide +kernel
theorem dL_law_212 : decode cL_law 212 = .ok (.aload_n 0, 1) := by decide +kernel
theorem dL_law_213 : decode cL_law 213 = .ok (.iload 4, 2) := by decide +kernel
theorem dL_law_215 : decode cL_law 215 = .ok (.iconst 2, 1) := by decide +kernel
theorem dL_law_216 : decode cL_law 216 = .ok (.iadd, 1) := by decide +kernel
theorem dL_law_217 : decode cL_law 217 = .ok (.iaload, 1) := by decide +kernel
theorem dL_law_218 : decode cL_law 218 = .ok (.aload_n 0, 1) := by decide +kernel
theorem dL_law_219 : decode cL_law 219 = .ok (.iload 4, 2) := by decide +kernel
theorem dL_law_221 : decode cL_law 221 = .ok (.iconst 3, 1) := by decide +kernel
theorem dL_law_222 : decode cL_law 222 = .ok (.iadd, 1) := by decide +kernel
theorem dL_law_223 : decode cL_law 223 = .ok (.iaload, 1) := by decide +kernel
theorem dL_law_224 : decode cL_law 224 = .ok (.invokevirtual 112, 3) := by decide +kernel
theorem dL_law_227 : decode cL_law 227 = .ok (.istore 6, 2) := by decide +kernel
theorem dL_law_229 : decode cL_law 229 = .ok (.aload_n 2, 1) := by decide +kernel
theorem dL_law_230 : decode cL_law 230 = .ok (.invokevirtual 113, 3) := by decide +kernel
theorem dL_law_233 : decode cL_law 233 = .ok (.iload 5, 2) := by decide +kernel
theorem dL_law_235 : decode cL_law 235 = .ok (.if_icmp .eq 5, 3) := by decide +kernel
theorem dL_law_240 : decode cL_law 240 = .ok (.iload 5, 2) := by decide +kernel
theorem dL_law_242 : decode cL_law 242 = .ok (.ifCond .ne 15, 3) := by decide +kernel
theorem dL_law_245 : decode cL_law 245 = .ok (.aload_n 3, 1) := by decide +kernel
theorem dL_law_246 : decode cL_law 246 = .ok (.iconst 0, 1) := by decide +kernel
theorem dL_law_247 : decode cL_law 247 = .ok (.laload, 1) := by decide +kernel
theorem dL_law_248 : decode cL_law 248 = .ok (.iload 6, 2) := by decide +kernel
theorem dL_law_250 : decode cL_law 250 = .ok (.i2l, 1) := by decide +kernel
theorem dL_law_251 : decode cL_law 251 = .ok (.lcmp, 1) := by decide +kernel
theorem dL_law_252 : decode cL_law 252 = .ok (.ifCond .eq 5, 3) := by decide +kernel
theorem dL_law_257 : decode cL_law 257 = .ok (.goto 1939, 3) := by decide +kernel
theorem dL_law_260 : decode cL_law 260 = .ok (.aload_n 1, 1) := by decide +kernel
theorem dL_law_261 : decode cL_law 261 = .ok (.aload_n 0, 1) := by decide +kernel
theorem dL_law_262 : decode cL_law 262 = .ok (.iload 4, 2) := by decide +kernel
theorem dL_law_264 : decode cL_law 264 = .ok (.iconst 1, 1) := by decide +kernel
theorem dL_law_265 : decode cL_law 265 = .ok (.iadd, 1) := by decide +kernel
theorem dL_law_266 : decode cL_law 266 = .ok (.iaload, 1) := by decide +kernel
theorem dL_law_267 : decode cL_law 267 = .ok (.aload_n 0, 1) := by decide +kernel
theorem dL_law_268 : decode cL_law 268 = .ok (.iload 4, 2) := by decide +kernel
theorem dL_law_270 : decode cL_law 270 = .ok (.iconst 2, 1) := by decide +kernel
theorem dL_law_271 : decode cL_law 271 = .ok (.iadd, 1) := by decide +kernel
theorem dL_law_272 : decode cL_law 272 = .ok (.iaload, 1) := by decide +kernel
theorem dL_law_273 : decode cL_law 273 = .ok (.aload_n 3, 1) := by decide +kernel
theorem dL_law_274 : decode cL_law 274 = .ok (.invokestatic 117, 3) := by decide +kernel
theorem dL_law_277 : decode cL_law 277 = .ok (.istore 5, 2) := by decide +kernel
theorem dL_law_279 : decode cL_law 279 = .ok (.aload_n 2, 1) := by decide +kernel
theorem dL_law_280 : decode cL_law 280 = .ok (.aload_n 0, 1) := by decide +kernel
theorem dL_law_281 : decode cL_law 281 = .ok (.iload 4, 2) := by decide +kernel
theorem dL_law_283 : decode cL_law 283 = .ok (.iconst 1, 1) := by decide +kernel
theorem dL_law_284 : decode cL_law 284 = .ok (.iadd, 1) := by decide +kernel
theorem dL_law_285 : decode cL_law 285 = .ok (.iaload, 1) := by decide +kernel
theorem dL_law_286 : decode cL_law 286 = .ok (.aload_n 0, 1) := by decide +kernel
theorem dL_law_287 : decode cL_law 287 = .ok (.iload 4, 2) := by decide +kernel
theorem dL_law_289 : decode cL_law 289 = .ok (.iconst 2, 1) := by decide +kernel
theorem dL_law_290 : decode cL_law 290 = .ok (.iadd, 1) := by decide +kernel
theorem dL_law_291 : decode cL_law 291 = .ok (.iaload, 1) := by decide +kernel
theorem dL_law_292 : decode cL_law 292 = .ok (.invokevirtual 120, 3) := by decide +kernel
theorem dL_law_295 : decode cL_law 295 = .ok (.istore 6, 2) := by decide +kernel
theorem dL_law_297 : decode cL_law 297 = .ok (.aload_n 2, 1) := by decide +kernel
theorem dL_law_298 : decode cL_law 298 = .ok (.invokevirtual 113, 3) := by decide +kernel
theorem dL_law_301 : decode cL_law 301 = .ok (.iload 5, 2) := by decide +kernel
theorem dL_law_303 : decode cL_law 303 = .ok (.if_icmp .eq 5, 3) := by decide +kernel
theorem dL_law_308 : decode cL_law 308 = .ok (.iload 5, 2) := by decide +kernel
theorem dL_law_310 : decode cL_law 310 = .ok (.ifCond .ne 15, 3) := by decide +kernel
theorem dL_law_325 : decode cL_law 325 = .ok (.goto 1871, 3) := by decide +kernel
theorem dL_law_328 : decode cL_law 328 = .ok (.aload_n 1, 1) := by decide +kernel
theorem dL_law_329 : decode cL_law 329 = .ok (.aload_n 0, 1) := by decide +kernel
theorem dL_law_330 : decode cL_law 330 = .ok (.iload 4, 2) := by decide +kernel
theorem dL_law_332 : decode cL_law 332 = .ok (.iconst 1, 1) := by decide +kernel
theorem dL_law_333 : decode cL_law 333 = .ok (.iadd, 1) := by decide +kernel
theorem dL_law_334 : decode cL_law 334 = .ok (.iaload, 1) := by decide +kernel
theorem dL_law_335 : decode cL_law 335 = .ok (.aload_n 0, 1) := by decide +kernel
theorem dL_law_336 : decode cL_law 336 = .ok (.iload 4, 2) := by decide +kernel
theorem dL_law_338 : decode cL_law 338 = .ok (.iconst 2, 1) := by decide +kernel
theorem dL_law_339 : decode cL_law 339 = .ok (.iadd, 1) := by decide +kernel
theorem dL_law_340 : decode cL_law 340 = .ok (.iaload, 1) := by decide +kernel
theorem dL_law_341 : decode cL_law 341 = .ok (.aload_n 0, 1) := by decide +kernel
theorem dL_law_342 : decode cL_law 342 = .ok (.iload 4, 2) := by decide +kernel
theorem dL_law_344 : decode cL_law 344 = .ok (.iconst 3, 1) := by decide +kernel
theorem dL_law_345 : decode cL_law 345 = .ok (.iadd, 1) := by decide +kernel
theorem dL_law_346 : decode cL_law 346 = .ok (.iaload, 1) := by decide +kernel
theorem dL_law_347 : decode cL_law 347 = .ok (.aload_n 3, 1) := by decide +kernel
theorem dL_law_348 : decode cL_law 348 = .ok (.invokestatic 121, 3) := by decide +kernel
theorem dL_law_351 : decode cL_law 351 = .ok (.istore 5, 2) := by decide +kernel
theorem dL_law_353 : decode cL_law 353 = .ok (.aload_n 2, 1) := by decide +kernel
theorem dL_law_354 : decode cL_law 354 = .ok (.aload_n 0, 1) := by decide +kernel
theorem dL_law_355 : decode cL_law 355 = .ok (.iload 4, 2) := by decide +kernel
theorem dL_law_357 : decode cL_law 357 = .ok (.iconst 1, 1) := by decide +kernel
theorem dL_law_358 : decode cL_law 358 = .ok (.iadd, 1) := by decide +kernel
theorem dL_law_359 : decode cL_law 359 = .ok (.iaload, 1) := by decide +kernel
theorem dL_law_360 : decode cL_law 360 = .ok (.aload_n 0, 1) := by decide +kernel
theorem dL_law_361 : decode cL_law 361 = .ok (.iload 4, 2) := by decide +kernel
theorem dL_law_363 : decode cL_law 363 = .ok (.iconst 2, 1) := by decide +kernel
theorem dL_law_364 : decode cL_law 364 = .ok (.iadd, 1) := by decide +kernel
theorem dL_law_365 : decode cL_law 365 = .ok (.iaload, 1) := by decide +kernel
theorem dL_law_366 : decode cL_law 366 = .ok (.aload_n 0, 1) := by decide +kernel
theorem dL_law_367 : decode cL_law 367 = .ok (.iload 4, 2) := by decide +kernel
theorem dL_law_369 : decode cL_law 369 = .ok (.iconst 3, 1) := by decide +kernel
theorem dL_law_370 : decode cL_law 370 = .ok (.iadd, 1) := by decide +kernel
theorem dL_law_371 : decode cL_law 371 = .ok (.iaload, 1) := by decide +kernel
theorem dL_law_372 : decode cL_law 372 = .ok (.invokevirtual 123, 3) := by decide +kernel
theorem dL_law_375 : decode cL_law 375 = .ok (.istore 6, 2) := by decide +kernel
theorem dL_law_377 : decode cL_law 377 = .ok (.aload_n 2, 1) := by decide +kernel
theorem dL_law_378 : decode cL_law 378 = .ok (.invokevirtual 113, 3) := by decide +kernel
theorem dL_law_381 : decode cL_law 381 = .ok (.iload 5, 2) := by decide +kernel
theorem dL_law_383 : decode cL_law 383 = .ok (.if_icmp .eq 5, 3) := by decide +kernel
theorem dL_law_388 : decode cL_law 388 = .ok (.iload 5, 2) := by decide +kernel
theorem dL_law_390 : decode cL_law 390 = .ok (.ifCond .ne 15, 3) := by decide +kernel
theorem dL_law_405 : decode cL_law 405 = .ok (.goto 1791, 3) := by decide +kernel
theorem dL_law_408 : decode cL_law 408 = .ok (.aload_n 1, 1) := by decide +kernel
theorem dL_law_409 : decode cL_law 409 = .ok (.aload_n 0, 1) := by decide +kernel
theorem dL_law_410 : decode cL_law 410 = .ok (.iload 4, 2) := by decide +kernel
theorem dL_law_412 : decode cL_law 412 = .ok (.iconst 1, 1) := by decide +kernel
theorem dL_law_413 : decode cL_law 413 = .ok (.iadd, 1) := by decide +kernel
theorem dL_law_414 : decode cL_law 414 = .ok (.iaload, 1) := by decide +kernel
theorem dL_law_415 : decode cL_law 415 = .ok (.aload_n 3, 1) := by decide +kernel
theorem dL_law_416 : decode cL_law 416 = .ok (.invokestatic 124, 3) := by decide +kernel
theorem dL_law_419 : decode cL_law 419 = .ok (.istore 5, 2) := by decide +kernel
theorem dL_law_421 : decode cL_law 421 = .ok (.aload_n 2, 1) := by decide +kernel
theorem dL_law_422 : decode cL_law 422 = .ok (.aload_n 0, 1) := by decide +kernel
theorem dL_law_423 : decode cL_law 423 = .ok (.iload 4, 2) := by decide +kernel
theorem dL_law_425 : decode cL_law 425 = .ok (.iconst 1, 1) := by decide +kernel
theorem dL_law_426 : decode cL_law 426 = .ok (.iadd, 1) := by decide +kernel
theorem dL_law_427 : decode cL_law 427 = .ok (.iaload, 1) := by decide +kernel
theorem dL_law_428 : decode cL_law 428 = .ok (.invokevirtual 127, 3) := by decide +kernel
theorem dL_law_431 : decode cL_law 431 = .ok (.istore 6, 2) := by decide +kernel
theorem dL_law_433 : decode cL_law 433 = .ok (.aload_n 2, 1) := by decide +kernel
theorem dL_law_434 : decode cL_law 434 = .ok (.invokevirtual 113, 3) := by decide +kernel
theorem dL_law_437 : decode cL_law 437 = .ok (.iload 5, 2) := by decide +kernel
theorem dL_law_439 : decode cL_law 439 = .ok (.if_icmp .eq 5, 3) := by decide +kernel
theorem dL_law_444 : decode cL_law 444 = .ok (.iload 5, 2) := by decide +kernel
theorem dL_law_446 : decode cL_law 446 = .ok (.ifCond .ne 15, 3) := by decide +kernel
theorem dL_law_449 : decode cL_law 449 = .ok (.aload_n 3, 1) := by decide +kernel
theorem dL_law_450 : decode cL_law 450 = .ok (.iconst 0, 1) := by decide +kernel
theorem dL_law_451 : decode cL_law 451 = .ok (.laload, 1) := by decide +kernel
theorem dL_law_452 : decode cL_law 452 = .ok (.iload 6, 2) := by decide +kernel
theorem dL_law_454 : decode cL_law 454 = .ok (.i2l, 1) := by decide +kernel
theorem dL_law_455 : decode cL_law 455 = .ok (.lcmp, 1) := by decide +kernel
theorem dL_law_456 : decode cL_law 456 = .ok (.ifCond .eq 5, 3) := by decide +kernel
theorem dL_law_461 : decode cL_law 461 = .ok (.goto 1735, 3) := by decide +kernel
theorem dL_law_180 : decode code 180 = .ok (.aload_n 1, 1) := by decide +kernel
theorem dL_law_181 : decode code 181 = .ok (.aload_n 0, 1) := by decide +kernel
theorem dL_law_182 : decode code 182 = .ok (.iload 4, 2) := by decide +kernel
theorem dL_law_184 : decode code 184 = .ok (.iconst 1, 1) := by decide +kernel
theorem dL_law_185 : decode code 185 = .ok (.iadd, 1) := by decide +kernel
theorem dL_law_186 : decode code 186 = .ok (.iaload, 1) := by decide +kernel
theorem dL_law_187 : decode code 187 = .ok (.aload_n 0, 1) := by decide +kernel
theorem dL_law_188 : decode code 188 = .ok (.iload 4, 2) := by decide +kernel
theorem dL_law_190 : decode code 190 = .ok (.iconst 2, 1) := by decide +kernel
theorem dL_law_191 : decode code 191 = .ok (.iadd, 1) := by decide +kernel
theorem dL_law_192 : decode code 192 = .ok (.iaload, 1) := by decide +kernel
theorem dL_law_193 : decode code 193 = .ok (.aload_n 0, 1) := by decide +kernel
theorem dL_law_194 : decode code 194 = .ok (.iload 4, 2) := by decide +kernel
theorem dL_law_196 : decode code 196 = .ok (.iconst 3, 1) := by decide +kernel
theorem dL_law_197 : decode code 197 = .ok (.iadd, 1) := by decide +kernel
theorem dL_law_198 : decode code 198 = .ok (.iaload, 1) := by decide +kernel
theorem dL_law_199 : decode code 199 = .ok (.aload_n 3, 1) := by decide +kernel
theorem dL_law_200 : decode code 200 = .ok (.invokestatic 107, 3) := by decide +kernel
theorem dL_law_203 : decode code 203 = .ok (.istore 5, 2) := by decide +kernel
theorem dL_law_205 : decode code 205 = .ok (.aload_n 2, 1) := by decide +kernel
theorem dL_law_206 : decode code 206 = .ok (.aload_n 0, 1) := by decide +kernel
theorem dL_law_207 : decode code 207 = .ok (.iload 4, 2) := by decide +kernel
theorem dL_law_209 : decode code 209 = .ok (.iconst 1, 1) := by decide +kernel
theorem dL_law_210 : decode code 210 = .ok (.iadd, 1) := by decide +kernel
theorem dL_law_211 : decode code 211 = .ok (.iaload, 1) := by decide +kernel
theorem dL_law_212 : decode code 212 = .ok (.aload_n 0, 1) := by decide +kernel
theorem dL_law_213 : decode code 213 = .ok (.iload 4, 2) := by decide +kernel
theorem dL_law_215 : decode code 215 = .ok (.iconst 2, 1) := by decide +kernel
theorem dL_law_216 : decode code 216 = .ok (.iadd, 1) := by decide +kernel
theorem dL_law_217 : decode code 217 = .ok (.iaload, 1) := by decide +kernel
theorem dL_law_218 : decode code 218 = .ok (.aload_n 0, 1) := by decide +kernel
theorem dL_law_219 : decode code 219 = .ok (.iload 4, 2) := by decide +kernel
theorem dL_law_221 : decode code 221 = .ok (.iconst 3, 1) := by decide +kernel
theorem dL_law_222 : decode code 222 = .ok (.iadd, 1) := by decide +kernel
theorem dL_law_223 : decode code 223 = .ok (.iaload, 1) := by decide +kernel
theorem dL_law_224 : decode code 224 = .ok (.invokevirtual 112, 3) := by decide +kernel
theorem dL_law_227 : decode code 227 = .ok (.istore 6, 2) := by decide +kernel
theorem dL_law_229 : decode code 229 = .ok (.aload_n 2, 1) := by decide +kernel
theorem dL_law_230 : decode code 230 = .ok (.invokevirtual 113, 3) := by decide +kernel
theorem dL_law_233 : decode code 233 = .ok (.iload 5, 2) := by decide +kernel
theorem dL_law_235 : decode code 235 = .ok (.if_icmp .eq 5, 3) := by decide +kernel
theorem dL_law_240 : decode code 240 = .ok (.iload 5, 2) := by decide +kernel
theorem dL_law_242 : decode code 242 = .ok (.ifCond .ne 15, 3) := by decide +kernel
theorem dL_law_245 : decode code 245 = .ok (.aload_n 3, 1) := by decide +kernel
theorem dL_law_246 : decode code 246 = .ok (.iconst 0, 1) := by decide +kernel
theorem dL_law_247 : decode code 247 = .ok (.laload, 1) := by decide +kernel
theorem dL_law_248 : decode code 248 = .ok (.iload 6, 2) := by decide +kernel
theorem dL_law_250 : decode code 250 = .ok (.i2l, 1) := by decide +kernel
theorem dL_law_251 : decode code 251 = .ok (.lcmp, 1) := by decide +kernel
theorem dL_law_252 : decode code 252 = .ok (.ifCond .eq 5, 3) := by decide +kernel
theorem dL_law_257 : decode code 257 = .ok (.goto 1939, 3) := by decide +kernel
theorem dL_law_260 : decode code 260 = .ok (.aload_n 1, 1) := by decide +kernel
theorem dL_law_261 : decode code 261 = .ok (.aload_n 0, 1) := by decide +kernel
theorem dL_law_262 : decode code 262 = .ok (.iload 4, 2) := by decide +kernel
theorem dL_law_264 : decode code 264 = .ok (.iconst 1, 1) := by decide +kernel
theorem dL_law_265 : decode code 265 = .ok (.iadd, 1) := by decide +kernel
theorem dL_law_266 : decode code 266 = .ok (.iaload, 1) := by decide +kernel
theorem dL_law_267 : decode code 267 = .ok (.aload_n 0, 1) := by decide +kernel
theorem dL_law_268 : decode code 268 = .ok (.iload 4, 2) := by decide +kernel
theorem dL_law_270 : decode code 270 = .ok (.iconst 2, 1) := by decide +kernel
theorem dL_law_271 : decode code 271 = .ok (.iadd, 1) := by decide +kernel
theorem dL_law_272 : decode code 272 = .ok (.iaload, 1) := by decide +kernel
theorem dL_law_273 : decode code 273 = .ok (.aload_n 3, 1) := by decide +kernel
theorem dL_law_274 : decode code 274 = .ok (.invokestatic 117, 3) := by decide +kernel
theorem dL_law_277 : decode code 277 = .ok (.istore 5, 2) := by decide +kernel
theorem dL_law_279 : decode code 279 = .ok (.aload_n 2, 1) := by decide +kernel
theorem dL_law_280 : decode code 280 = .ok (.aload_n 0, 1) := by decide +kernel
theorem dL_law_281 : decode code 281 = .ok (.iload 4, 2) := by decide +kernel
theorem dL_law_283 : decode code 283 = .ok (.iconst 1, 1) := by decide +kernel
theorem dL_law_284 : decode code 284 = .ok (.iadd, 1) := by decide +kernel
theorem dL_law_285 : decode code 285 = .ok (.iaload, 1) := by decide +kernel
theorem dL_law_286 : decode code 286 = .ok (.aload_n 0, 1) := by decide +kernel
theorem dL_law_287 : decode code 287 = .ok (.iload 4, 2) := by decide +kernel
theorem dL_law_289 : decode code 289 = .ok (.iconst 2, 1) := by decide +kernel
theorem dL_law_290 : decode code 290 = .ok (.iadd, 1) := by decide +kernel
theorem dL_law_291 : decode code 291 = .ok (.iaload, 1) := by decide +kernel
theorem dL_law_292 : decode code 292 = .ok (.invokevirtual 120, 3) := by decide +kernel
theorem dL_law_295 : decode code 295 = .ok (.istore 6, 2) := by decide +kernel
theorem dL_law_297 : decode code 297 = .ok (.aload_n 2, 1) := by decide +kernel
theorem dL_law_298 : decode code 298 = .ok (.invokevirtual 113, 3) := by decide +kernel
theorem dL_law_301 : decode code 301 = .ok (.iload 5, 2) := by decide +kernel
theorem dL_law_303 : decode code 303 = .ok (.if_icmp .eq 5, 3) := by decide +kernel
theorem dL_law_308 : decode code 308 = .ok (.iload 5, 2) := by decide +kernel
theorem dL_law_310 : decode code 310 = .ok (.ifCond .ne 15, 3) := by decide +kernel
theorem dL_law_325 : decode code 325 = .ok (.goto 1871, 3) := by decide +kernel
theorem dL_law_328 : decode code 328 = .ok (.aload_n 1, 1) := by decide +kernel
theorem dL_law_329 : decode code 329 = .ok (.aload_n 0, 1) := by decide +kernel
theorem dL_law_330 : decode code 330 = .ok (.iload 4, 2) := by decide +kernel
theorem dL_law_332 : decode code 332 = .ok (.iconst 1, 1) := by decide +kernel
theorem dL_law_333 : decode code 333 = .ok (.iadd, 1) := by decide +kernel
theorem dL_law_334 : decode code 334 = .ok (.iaload, 1) := by decide +kernel
theorem dL_law_335 : decode code 335 = .ok (.aload_n 0, 1) := by decide +kernel
theorem dL_law_336 : decode code 336 = .ok (.iload 4, 2) := by decide +kernel
theorem dL_law_338 : decode code 338 = .ok (.iconst 2, 1) := by decide +kernel
theorem dL_law_339 : decode code 339 = .ok (.iadd, 1) := by decide +kernel
theorem dL_law_340 : decode code 340 = .ok (.iaload, 1) := by decide +kernel
theorem dL_law_341 : decode code 341 = .ok (.aload_n 0, 1) := by decide +kernel
theorem dL_law_342 : decode code 342 = .ok (.iload 4, 2) := by decide +kernel
theorem dL_law_344 : decode code 344 = .ok (.iconst 3, 1) := by decide +kernel
theorem dL_law_345 : decode code 345 = .ok (.iadd, 1) := by decide +kernel
theorem dL_law_346 : decode code 346 = .ok (.iaload, 1) := by decide +kernel
theorem dL_law_347 : decode code 347 = .ok (.aload_n 3, 1) := by decide +kernel
theorem dL_law_348 : decode code 348 = .ok (.invokestatic 121, 3) := by decide +kernel
theorem dL_law_351 : decode code 351 = .ok (.istore 5, 2) := by decide +kernel
theorem dL_law_353 : decode code 353 = .ok (.aload_n 2, 1) := by decide +kernel
theorem dL_law_354 : decode code 354 = .ok (.aload_n 0, 1) := by decide +kernel
theorem dL_law_355 : decode code 355 = .ok (.iload 4, 2) := by decide +kernel
theorem dL_law_357 : decode code 357 = .ok (.iconst 1, 1) := by decide +kernel
theorem dL_law_358 : decode code 358 = .ok (.iadd, 1) := by decide +kernel
theorem dL_law_359 : decode code 359 = .ok (.iaload, 1) := by decide +kernel
theorem dL_law_360 : decode code 360 = .ok (.aload_n 0, 1) := by decide +kernel
theorem dL_law_361 : decode code 361 = .ok (.iload 4, 2) := by decide +kernel
theorem dL_law_363 : decode code 363 = .ok (.iconst 2, 1) := by decide +kernel
theorem dL_law_364 : decode code 364 = .ok (.iadd, 1) := by decide +kernel
theorem dL_law_365 : decode code 365 = .ok (.iaload, 1) := by decide +kernel
theorem dL_law_366 : decode code 366 = .ok (.aload_n 0, 1) := by decide +kernel
theorem dL_law_367 : decode code 367 = .ok (.iload 4, 2) := by decide +kernel
theorem dL_law_369 : decode code 369 = .ok (.iconst 3, 1) := by decide +kernel
theorem dL_law_370 : decode code 370 = .ok (.iadd, 1) := by decide +kernel
theorem dL_law_371 : decode code 371 = .ok (.iaload, 1) := by decide +kernel
theorem dL_law_372 : decode code 372 = .ok (.invokevirtual 123, 3) := by decide +kernel
theorem dL_law_375 : decode code 375 = .ok (.istore 6, 2) := by decide +kernel
theorem dL_law_377 : decode code 377 = .ok (.aload_n 2, 1) := by decide +kernel
theorem dL_law_378 : decode code 378 = .ok (.invokevirtual 113, 3) := by decide +kernel
theorem dL_law_381 : decode code 381 = .ok (.iload 5, 2) := by decide +kernel
theorem dL_law_383 : decode code 383 = .ok (.if_icmp .eq 5, 3) := by decide +kernel
theorem dL_law_388 : decode code 388 = .ok (.iload 5, 2) := by decide +kernel
theorem dL_law_390 : decode code 390 = .ok (.ifCond .ne 15, 3) := by decide +kernel
theorem dL_law_405 : decode code 405 = .ok (.goto 1791, 3) := by decide +kernel
theorem dL_law_408 : decode code 408 = .ok (.aload_n 1, 1) := by decide +kernel
theorem dL_law_409 : decode code 409 = .ok (.aload_n 0, 1) := by decide +kernel
theorem dL_law_410 : decode code 410 = .ok (.iload 4, 2) := by decide +kernel
theorem dL_law_412 : decode code 412 = .ok (.iconst 1, 1) := by decide +kernel
theorem dL_law_413 : decode code 413 = .ok (.iadd, 1) := by decide +kernel
theorem dL_law_414 : decode code 414 = .ok (.iaload, 1) := by decide +kernel
theorem dL_law_415 : decode code 415 = .ok (.aload_n 3, 1) := by decide +kernel
theorem dL_law_416 : decode code 416 = .ok (.invokestatic 124, 3) := by decide +kernel
theorem dL_law_419 : decode code 419 = .ok (.istore 5, 2) := by decide +kernel
theorem dL_law_421 : decode code 421 = .ok (.aload_n 2, 1) := by decide +kernel
theorem dL_law_422 : decode code 422 = .ok (.aload_n 0, 1) := by decide +kernel
theorem dL_law_423 : decode code 423 = .ok (.iload 4, 2) := by decide +kernel
theorem dL_law_425 : decode code 425 = .ok (.iconst 1, 1) := by decide +kernel
theorem dL_law_426 : decode code 426 = .ok (.iadd, 1) := by decide +kernel
theorem dL_law_427 : decode code 427 = .ok (.iaload, 1) := by decide +kernel
theorem dL_law_428 : decode code 428 = .ok (.invokevirtual 127, 3) := by decide +kernel
theorem dL_law_431 : decode code 431 = .ok (.istore 6, 2) := by decide +kernel
theorem dL_law_433 : decode code 433 = .ok (.aload_n 2, 1) := by decide +kernel
theorem dL_law_434 : decode code 434 = .ok (.invokevirtual 113, 3) := by decide +kernel
theorem dL_law_437 : decode code 437 = .ok (.iload 5, 2) := by decide +kernel
theorem dL_law_439 : decode code 439 = .ok (.if_icmp .eq 5, 3) := by decide +kernel
theorem dL_law_444 : decode code 444 = .ok (.iload 5, 2) := by decide +kernel
theorem dL_law_446 : decode code 446 = .ok (.ifCond .ne 15, 3) := by decide +kernel
theorem dL_law_449 : decode code 449 = .ok (.aload_n 3, 1) := by decide +kernel
theorem dL_law_450 : decode code 450 = .ok (.iconst 0, 1) := by decide +kernel
theorem dL_law_451 : decode code 451 = .ok (.laload, 1) := by decide +kernel
theorem dL_law_452 : decode code 452 = .ok (.iload 6, 2) := by decide +kernel
theorem dL_law_454 : decode code 454 = .ok (.i2l, 1) := by decide +kernel
theorem dL_law_455 : decode code 455 = .ok (.lcmp, 1) := by decide +kernel
theorem dL_law_456 : decode code 456 = .ok (.ifCond .eq 5, 3) := by decide +kernel
theorem dL_law_461 : decode code 461 = .ok (.goto 1735, 3) := by decide +kernel
set_option maxRecDepth 100000 in
theorem gl_c_L_sort : GoodIn lw_tbl (va_wsS RL 107 yL_sort w_c_L_sort) := goodIn_app (goodIn_of _ (by decide +kernel)) (goodIn_ca (goodIn_p (big := lw_tbl) (.codeWith yL_sort cL_sort 6 (some .int) [(0, 12, 15, 13), (0, 12, 19, 15)] :: wb_c_L_sort) [1035, 438, 1126, 128, 1169, 1173, 750, 1178, 1182, 745, 580, 649, 653, 657, 661, 1038] rfl (by decide +kernel)) (goodIn_sub z_atIn zAt_good))
set_option maxRecDepth 100000 in
theorem gl_c_M_sort : GoodIn lw_tbl (wsV RL 112 RX19 yX19_sort w_c_M_sort) := goodIn_app (goodIn_of _ (by decide +kernel)) (goodIn_p (big := lw_tbl) (.code yX19_sort cX19_sort 6 (some .int) :: wb_c_M_sort) [1661, 1664, 1668, 1672, 438, 1679, 128, 133, 136, 139, 649, 653, 657, 661, 580] rfl (by decide +kernel))
set_option maxRecDepth 100000 in
theorem gl_c_M_thrown : GoodIn lw_tbl (wsV RL 113 RX19 yX19_thrown w_c_M_thrown) := goodIn_app (goodIn_of _ (by decide +kernel)) (goodIn_p (big := lw_tbl) (.code yX19_thrown cX19_thrown 1 (some .int) :: wb_c_M_thrown) [1657] rfl (by decide +kernel))
set_option maxRecDepth 100000 in
theorem gl_c_L_parent : GoodIn lw_tbl (va_wsS RL 117 yL_parent w_c_L_parent) := goodIn_app (goodIn_of _ (by decide +kernel)) (goodIn_ca (goodIn_p (big := lw_tbl) (.codeWith yL_parent cL_parent 5 (some .int) [(0, 10, 13, 21), (0, 10, 17, 13), (0, 10, 21, 15)] :: wb_c_L_parent) [1194, 1198, 438] rfl (by decide +kernel)) (goodIn_sub z_atIn zAt_good))
set_option maxRecDepth 100000 in
theorem gl_c_M_parent : GoodIn lw_tbl (wsV RL 120 RX19 yX19_parent w_c_M_parent) := goodIn_app (goodIn_of _ (by decide +kernel)) (goodIn_p (big := lw_tbl) (.code yX19_parent cX19_parent 4 (some .int) :: wb_c_M_parent) [1697, 1701, 438, 1664, 1668, 1672] rfl (by decide +kernel))
set_option maxRecDepth 100000 in
theorem gl_c_L_type : GoodIn lw_tbl (va_wsS RL 121 yL_type w_c_L_type) := goodIn_app (goodIn_of _ (by decide +kernel)) (goodIn_ca (goodIn_p (big := lw_tbl) (.codeWith yL_type cL_type 6 (some .int) [(0, 12, 15, 21), (0, 12, 19, 13), (0, 12, 23, 15)] :: wb_c_L_type) [1277, 1198, 438] rfl (by decide +kernel)) (goodIn_sub z_atIn zAt_good))
set_option maxRecDepth 100000 in
theorem gl_c_M_type : GoodIn lw_tbl (wsV RL 123 RX19 yX19_type_ w_c_M_type) := goodIn_app (goodIn_of _ (by decide +kernel)) (goodIn_p (big := lw_tbl) (.code yX19_type_ cX19_type_ 7 (some .int) :: wb_c_M_type) [1733, 1701, 438, 1664, 1668, 1672] rfl (by decide +kernel))
set_option maxRecDepth 100000 in
theorem gl_c_L_parameter : GoodIn lw_tbl (va_wsS RL 124 yL_parameter w_c_L_parameter) := goodIn_app (goodIn_of _ (by decide +kernel)) (goodIn_ca (goodIn_p (big := lw_tbl) (.codeWith yL_parameter cL_parameter 4 (some .int) [(0, 9, 12, 13), (0, 9, 15, 15)] :: wb_c_L_parameter) [1304, 1291, 1297] rfl (by decide +kernel)) (goodIn_sub z_atIn zAt_good))
set_option maxRecDepth 100000 in
theorem gl_c_M_parameter : GoodIn lw_tbl (wsV RL 127 RX19 yX19_parameter w_c_M_parameter) := goodIn_app (goodIn_of _ (by decide +kernel)) (goodIn_p (big := lw_tbl) (.code yX19_parameter cX19_parameter 2 (some .int) :: wb_c_M_parameter) [1751, 1664, 1668, 1672, 1618, 1623, 128, 1747, 438, 649, 653] rfl (by decide +kernel))
set_option maxHeartbeats 4000000 in
set_option maxRecDepth 100000 in
theorem law_case_0 {p : Program} {e : Env} {s : State} {m : MethodId} {below : List Frame} {meth : Method} {c : Code} (l : Launch) {b : Nat} {xs : Nat → Int32} {A : Nat → Prop} {eD eI : Nat} {ad : Nat → Nat} (Z : zLaw l p s m meth c b xs A eD eI ad) (y1 : Int32) (hy1 : xs (1 : Int32).toNatClampNeg = y1) (y2 : Int32) (hy2 : xs (2 : Int32).toNatClampNeg = y2) (y3 : Int32) (hy3 : xs (3 : Int32).toNatClampNeg = y3) (y4 : Int32) (hy4 : xs (4 : Int32).toNatClampNeg = y4) (y5 : Int32) (hy5 : xs (5 : Int32).toNatClampNeg = y5) (y6 : Int32) (hy6 : xs (6 : Int32).toNatClampNeg = y6) (dC : Nat → ClassId) (dI : Nat → Nat → Nat) (hh : Nat) (aexpr : Nat) (achoo : Nat) (ameth : Nat) (aroom : Nat) (anod : Nat) (asort : Nat) (anote : Nat) (amet : Nat) (atold : Nat) (aheld : Nat) (apair : Nat) (astep : Nat) (asize : Nat) (nm : Nat) (nl : Nat) (n1 : Nat) (n2 : Nat) (nf : Nat) (ns : Nat) (nh : Nat) (nk : Nat) (np : Nat) (apsl : Nat) (azsl : Nat) (acand : Nat) (ahint : Nat) (af1 : Nat) (af2 : Nat) (af3 : Nat) (ou : Nat) (mm : Nat) (ms : Nat) (mt : Nat) (mh : Nat) (me : Nat) (ma : Nat) (t0 : Nat) (t1 : Nat) (t2 : Nat) (i0 : Nat) (i1 : Nat) (i2 : Nat) (kI : ClassId) (kL : ClassId) (kO : ClassId) (kT : ClassId) (mo : Int32) (fo : Nat → Int64) {H : Heap} {locs : List Loc} {ls : Array Slot} (hP : va_P (dC, dI) vwCl [(hh, .inr (13, [.ref aexpr, .ref achoo, .ref ameth, .ref aroom, .ref anod, .ref asort, .ref anote, .ref amet, .int 0, .int 1])), (achoo, .inr (3, [.ref aroom, .ref ameth, .ref acand, .ref ahint, .int 0, .int (-1), .int 0, .int 0, .null])), (aroom, .inr (9, [.ref asort, .ref anod, .ref atold, .int 3, .ref aheld, .int 0, .ref apair, .ref astep, .int 0, .int 0, .int (-1), .int 0, .int 0, .ref asize])), (anod, .inr (7, [.ref nm, .ref nl, .ref n1, .ref n2, .ref nf, .ref ns, .ref nh, .ref nk, .ref np, .int 16, .int 0, .int 16, .int 0, .int 0])), (apair, .inr (8, [.ref apsl, .int 0, .int 0])), (asize, .inr (10, [.ref azsl, .int 0])), (anote, .inr (5, [.ref af1, .ref af2, .ref af3, .int 0])), (aexpr, .inr (1, [.int 0, .ref eD, .int 0])), (ameth, .inr (1, [.int 0, .ref eD, .int 0])), (asort, .inr (1, [.int 0, .ref eD, .int 0])), (astep, .inr (1, [.int 0, .ref eD, .int 0])), (atold, .inl (kI, 60, .inl zTold)), (ns, .inl (kL, 1024, .inr (.inl zSec))), (nf, .inl (kL, 1024, .inr (.inl zFir))), (nm, .inl (kI, 12, .inl (fun _ => 0))), (nl, .inl (kI, 12, .inl (fun _ => 0))), (n1, .inl (kI, 12, .inl (fun _ => 0))), (n2, .inl (kI, 12, .inl (fun _ => 0))), (apsl, .inl (kL, 512, .inr (.inl (fun _ => 0)))), (azsl, .inl (kL, 0, .inr (.inl (fun _ => 0)))), (mm, .inr (21, [.int 0, .ref ms, .ref mt, .ref mh, .ref me])), (ms, .inr (1, [.int 0, .ref eD, .int 0])), (mt, .inr (1, [.int mo, .ref ma, .int 3])), (mh, .inr (1, [.int 0, .ref eD, .int 0])), (me, .inr (1, [.int 0, .ref eD, .int 0])), (ma, .inl (kO, 10, .inr (.inr (.inr (.inr (zfT t0 t1 t2)))))), (t0, .inr (18, [.int (-1), .ref i0])), (t1, .inr (18, [.int (-2), .ref i1])), (t2, .inr (18, [.int (-3), .ref i2])), (i0, .inl (kT, 0, .inr (.inr (.inr (.inr (fun _ => none)))))), (i1, .inl (kT, 0, .inr (.inr (.inr (.inr (fun _ => none)))))), (i2, .inl (kT, 0, .inr (.inr (.inr (.inr (fun _ => none)))))), (ou, .inl (kL, 1, .inr (.inl fo)))] H) (hD : va_D A [(hh, .inr (13, [.ref aexpr, .ref achoo, .ref ameth, .ref aroom, .ref anod, .ref asort, .ref anote, .ref amet, .int 0, .int 1])), (achoo, .inr (3, [.ref aroom, .ref ameth, .ref acand, .ref ahint, .int 0, .int (-1), .int 0, .int 0, .null])), (aroom, .inr (9, [.ref asort, .ref anod, .ref atold, .int 3, .ref aheld, .int 0, .ref apair, .ref astep, .int 0, .int 0, .int (-1), .int 0, .int 0, .ref asize])), (anod, .inr (7, [.ref nm, .ref nl, .ref n1, .ref n2, .ref nf, .ref ns, .ref nh, .ref nk, .ref np, .int 16, .int 0, .int 16, .int 0, .int 0])), (apair, .inr (8, [.ref apsl, .int 0, .int 0])), (asize, .inr (10, [.ref azsl, .int 0])), (anote, .inr (5, [.ref af1, .ref af2, .ref af3, .int 0])), (aexpr, .inr (1, [.int 0, .ref eD, .int 0])), (ameth, .inr (1, [.int 0, .ref eD, .int 0])), (asort, .inr (1, [.int 0, .ref eD, .int 0])), (astep, .inr (1, [.int 0, .ref eD, .int 0])), (atold, .inl (kI, 60, .inl zTold)), (ns, .inl (kL, 1024, .inr (.inl zSec))), (nf, .inl (kL, 1024, .inr (.inl zFir))), (nm, .inl (kI, 12, .inl (fun _ => 0))), (nl, .inl (kI, 12, .inl (fun _ => 0))), (n1, .inl (kI, 12, .inl (fun _ => 0))), (n2, .inl (kI, 12, .inl (fun _ => 0))), (apsl, .inl (kL, 512, .inr (.inl (fun _ => 0)))), (azsl, .inl (kL, 0, .inr (.inl (fun _ => 0)))), (mm, .inr (21, [.int 0, .ref ms, .ref mt, .ref mh, .ref me])), (ms, .inr (1, [.int 0, .ref eD, .int 0])), (mt, .inr (1, [.int mo, .ref ma, .int 3])), (mh, .inr (1, [.int 0, .ref eD, .int 0])), (me, .inr (1, [.int 0, .ref eD, .int 0])), (ma, .inl (kO, 10, .inr (.inr (.inr (.inr (zfT t0 t1 t2)))))), (t0, .inr (18, [.int (-1), .ref i0])), (t1, .inr (18, [.int (-2), .ref i1])), (t2, .inr (18, [.int (-3), .ref i2])), (i0, .inl (kT, 0, .inr (.inr (.inr (.inr (fun _ => none)))))), (i1, .inl (kT, 0, .inr (.inr (.inr (.inr (fun _ => none)))))), (i2, .inl (kT, 0, .inr (.inr (.inr (.inr (fun _ => none)))))), (ou, .inl (kL, 1, .inr (.inl fo)))]) (hK : va_K (dC, dI) vwCl [(kI, .int), (kL, .long), (kO, .object "java/lang/Object"), (kT, .object "HornbookModel$Tree")] s) (hS : va_S A s.heap H locs) (hl : lv_has ls 9 [(4, .int 0), (3, .ref ou), (2, .ref mm), (1, .ref hh), (0, .ref b)]) : W p l e room_1 s m #[Value.ref b] below meth c H locs 74 3613 (lw_Z below #[Value.ref b] s) (F0 m 180 ls []) := by
  obtain ⟨hfl, hx, hb, hr, hml, hown, hts, hX, hbl, hbA, hlocks, hE, hA, hAs, hDc⟩ := id Z
  have in_RJx4a65c : ∀ w ∈ u_ws RJx4a65c TJx4a65c 3, w ∈ lw_tbl := by decide +kernel
  have in_RX11 : ∀ w ∈ u_ws RX11 TX11 10, w ∈ lw_tbl := by decide +kernel
  have in_RX14 : ∀ w ∈ u_ws RX14 TX14 2, w ∈ lw_tbl := by decide +kernel
  have in_RX19 : ∀ w ∈ u_ws RX19 TX19 5, w ∈ lw_tbl := by decide +kernel
  have in_RX5 : ∀ w ∈ u_ws RX5 TX5 14, w ∈ lw_tbl := by decide +kernel
  have in_RX9 : ∀ w ∈ u_ws RX9 TX9 9, w ∈ lw_tbl := by decide +kernel
  refine lv_aload_n hx hb dL_law_180 rfl (lv_at hl 3 rfl) ?_
  refine lv_aload_n hx hb dL_law_181 rfl (lv_at hl 4 rfl) ?_
  refine lv_iload hx hb dL_law_182 (lv_at hl 0 rfl) ?_
  refine lv_iconst (v := 1) hx hb dL_law_184 (by decide) ?_
  refine lv_iadd hx hb dL_law_185 ?_
  refine z_top (v' := .int 1) (congrArg Value.int (by decide)) ?_
  refine va_sld hx hb hX hbl hbA hS (by unfold vp_in; decide) dL_law_186 ?_
  refine z_top (v' := .int y1) (congrArg Value.int hy1) ?_
  refine lv_aload_n hx hb dL_law_187 rfl (lv_at hl 4 rfl) ?_
  refine lv_iload hx hb dL_law_188 (lv_at hl 0 rfl) ?_
  refine lv_iconst (v := 2) hx hb dL_law_190 (by decide) ?_
  refine lv_iadd hx hb dL_law_191 ?_
  refine z_top (v' := .int 2) (congrArg Value.int (by decide)) ?_
  refine va_sld hx hb hX hbl hbA hS (by unfold vp_in; decide) dL_law_192 ?_
  refine z_top (v' := .int y2) (congrArg Value.int hy2) ?_
  refine lv_aload_n hx hb dL_law_193 rfl (lv_at hl 4 rfl) ?_
  refine lv_iload hx hb dL_law_194 (lv_at hl 0 rfl) ?_
  refine lv_iconst (v := 3) hx hb dL_law_196 (by decide) ?_
  refine lv_iadd hx hb dL_law_197 ?_
  refine z_top (v' := .int 3) (congrArg Value.int (by decide)) ?_
  refine va_sld hx hb hX hbl hbA hS (by unfold vp_in; decide) dL_law_198 ?_
  refine z_top (v' := .int y3) (congrArg Value.int hy3) ?_
  refine lv_aload_n hx hb dL_law_199 rfl (lv_at hl 1 rfl) ?_
  refine zx_i (wr := [(achoo, .inr (3, [.ref aroom, .ref ameth, .ref acand, .ref ahint, .int 0, .int (-1), .int 0, .int 0, .null])), (aroom, .inr (9, [.ref asort, .ref anod, .ref atold, .int 3, .ref aheld, .int 0, .ref apair, .ref astep, .int 0, .int 0, .int (-1), .int 0, .int 0, .ref asize])), (apair, .inr (8, [.ref apsl, .int 0, .int 0])), (asize, .inr (10, [.ref azsl, .int 0])), (anote, .inr (5, [.ref af1, .ref af2, .ref af3, .int 0])), (aexpr, .inr (1, [.int 0, .ref eD, .int 0])), (ameth, .inr (1, [.int 0, .ref eD, .int 0])), (astep, .inr (1, [.int 0, .ref eD, .int 0])), (atold, .inl (kI, 60, .inl zTold)), (nf, .inl (kL, 1024, .inr (.inl zFir))), (apsl, .inl (kL, 512, .inr (.inl (fun _ => 0)))), (azsl, .inl (kL, 0, .inr (.inl (fun _ => 0)))), (mm, .inr (21, [.int 0, .ref ms, .ref mt, .ref mh, .ref me])), (ms, .inr (1, [.int 0, .ref eD, .int 0])), (mt, .inr (1, [.int mo, .ref ma, .int 3])), (mh, .inr (1, [.int 0, .ref eD, .int 0])), (me, .inr (1, [.int 0, .ref eD, .int 0])), (ma, .inl (kO, 10, .inr (.inr (.inr (.inr (zfT t0 t1 t2)))))), (t0, .inr (18, [.int (-1), .ref i0])), (t1, .inr (18, [.int (-2), .ref i1])), (t2, .inr (18, [.int (-3), .ref i2])), (i0, .inl (kT, 0, .inr (.inr (.inr (.inr (fun _ => none)))))), (i1, .inl (kT, 0, .inr (.inr (.inr (.inr (fun _ => none)))))), (i2, .inl (kT, 0, .inr (.inr (.inr (.inr (fun _ => none))))))]) (vx_runS (As := [.ref hh, .int y1, .int y2, .int y3, .ref ou]) (rest := []) ⟨hx, hb, hml, hown, hts⟩ (c_L_sort l hfl eD eI ad dC dI H.size hh aexpr achoo ameth aroom anod asort anote amet nm nl n1 n2 nf ns nh nk np ou kI kL y1 y2 y3 fo) (va_cwS 5 hts gl_c_L_sort rfl rfl rfl (by decide +kernel) ⟨Nat.le_of_ble_eq_true rfl, Nat.le_of_ble_eq_true rfl⟩) (z_preSD (wc := [(hh, .inr (13, [.ref aexpr, .ref achoo, .ref ameth, .ref aroom, .ref anod, .ref asort, .ref anote, .ref amet, .int 0, .int 1])), (asort, .inr (1, [.int 0, .ref eD, .int 0])), (anod, .inr (7, [.ref nm, .ref nl, .ref n1, .ref n2, .ref nf, .ref ns, .ref nh, .ref nk, .ref np, .int 16, .int 0, .int 16, .int 0, .int 0])), (ns, .inl (kL, 1024, .inr (.inl zSec))), (nm, .inl (kI, 12, .inl (fun _ => 0))), (nl, .inl (kI, 12, .inl (fun _ => 0))), (n1, .inl (kI, 12, .inl (fun _ => 0))), (n2, .inl (kI, 12, .inl (fun _ => 0))), (ou, .inl (kL, 1, .inr (.inl fo)))]) hP hD hK hS hA hE [0, 9, 3, 12, 14, 15, 16, 17, 32] [1, 0] rfl (by decide) rfl hDc) rfl rfl hl.1 rfl (lv_room (Nat.le_of_ble_eq_true rfl)) dL_law_200 ⟨Nat.le_of_ble_eq_true rfl, Nat.le_of_ble_eq_true rfl⟩) hP hD hK hS hA [0, 9, 3, 12, 14, 15, 16, 17, 32] [1, 2, 4, 5, 6, 7, 8, 10, 11, 13, 18, 19, 20, 21, 22, 23, 24, 25, 26, 27, 28, 29, 30, 31] rfl rfl (by decide) (by decide) (fun E ce q9 H locs hbad hP hD hS h91 h92 h93 => ?_) (fun r_3 u H locs hw_4 hP hD hK hS => ?_)
  · exact absurd hbad id
  obtain ⟨u_1, u_2⟩ := u
  have hP : va_P (dC, dI) vwCl [(achoo, .inr (3, [.ref aroom, .ref ameth, .ref acand, .ref ahint, .int 0, .int (-1), .int 0, .int 0, .null])), (aroom, .inr (9, [.ref asort, .ref anod, .ref atold, .int 3, .ref aheld, .int 0, .ref apair, .ref astep, .int 0, .int 0, .int (-1), .int 0, .int 0, .ref asize])), (apair, .inr (8, [.ref apsl, .int 0, .int 0])), (asize, .inr (10, [.ref azsl, .int 0])), (anote, .inr (5, [.ref af1, .ref af2, .ref af3, .int 0])), (aexpr, .inr (1, [.int 0, .ref eD, .int 0])), (ameth, .inr (1, [.int 0, .ref eD, .int 0])), (astep, .inr (1, [.int 0, .ref eD, .int 0])), (atold, .inl (kI, 60, .inl zTold)), (nf, .inl (kL, 1024, .inr (.inl zFir))), (apsl, .inl (kL, 512, .inr (.inl (fun _ => 0)))), (azsl, .inl (kL, 0, .inr (.inl (fun _ => 0)))), (mm, .inr (21, [.int 0, .ref ms, .ref mt, .ref mh, .ref me])), (ms, .inr (1, [.int 0, .ref eD, .int 0])), (mt, .inr (1, [.int mo, .ref ma, .int 3])), (mh, .inr (1, [.int 0, .ref eD, .int 0])), (me, .inr (1, [.int 0, .ref eD, .int 0])), (ma, .inl (kO, 10, .inr (.inr (.inr (.inr (zfT t0 t1 t2)))))), (t0, .inr (18, [.int (-1), .ref i0])), (t1, .inr (18, [.int (-2), .ref i1])), (t2, .inr (18, [.int (-3), .ref i2])), (i0, .inl (kT, 0, .inr (.inr (.inr (.inr (fun _ => none)))))), (i1, .inl (kT, 0, .inr (.inr (.inr (.inr (fun _ => none)))))), (i2, .inl (kT, 0, .inr (.inr (.inr (.inr (fun _ => none)))))), (ou, .inl (kL, 1, .inr (.inl u_2)))] H := hP
  have hD : va_D A [(achoo, .inr (3, [.ref aroom, .ref ameth, .ref acand, .ref ahint, .int 0, .int (-1), .int 0, .int 0, .null])), (aroom, .inr (9, [.ref asort, .ref anod, .ref atold, .int 3, .ref aheld, .int 0, .ref apair, .ref astep, .int 0, .int 0, .int (-1), .int 0, .int 0, .ref asize])), (apair, .inr (8, [.ref apsl, .int 0, .int 0])), (asize, .inr (10, [.ref azsl, .int 0])), (anote, .inr (5, [.ref af1, .ref af2, .ref af3, .int 0])), (aexpr, .inr (1, [.int 0, .ref eD, .int 0])), (ameth, .inr (1, [.int 0, .ref eD, .int 0])), (astep, .inr (1, [.int 0, .ref eD, .int 0])), (atold, .inl (kI, 60, .inl zTold)), (nf, .inl (kL, 1024, .inr (.inl zFir))), (apsl, .inl (kL, 512, .inr (.inl (fun _ => 0)))), (azsl, .inl (kL, 0, .inr (.inl (fun _ => 0)))), (mm, .inr (21, [.int 0, .ref ms, .ref mt, .ref mh, .ref me])), (ms, .inr (1, [.int 0, .ref eD, .int 0])), (mt, .inr (1, [.int mo, .ref ma, .int 3])), (mh, .inr (1, [.int 0, .ref eD, .int 0])), (me, .inr (1, [.int 0, .ref eD, .int 0])), (ma, .inl (kO, 10, .inr (.inr (.inr (.inr (zfT t0 t1 t2)))))), (t0, .inr (18, [.int (-1), .ref i0])), (t1, .inr (18, [.int (-2), .ref i1])), (t2, .inr (18, [.int (-3), .ref i2])), (i0, .inl (kT, 0, .inr (.inr (.inr (.inr (fun _ => none)))))), (i1, .inl (kT, 0, .inr (.inr (.inr (.inr (fun _ => none)))))), (i2, .inl (kT, 0, .inr (.inr (.inr (.inr (fun _ => none)))))), (ou, .inl (kL, 1, .inr (.inl u_2)))] := hD
  have hK : va_K (dC, dI) vwCl [(kI, .int), (kL, .long), (kO, .object "java/lang/Object"), (kT, .object "HornbookModel$Tree"), (kL, .long)] s := hK
  have hw_4 : r_3 = u_1 ∧ u_1 = (if y1 < 0 ∨ 2 < y1 then 1 else if ¬ y1 = 0 ∧ (y2 < 0 ∨ 2 < y2) then 1 else if y1 = 2 ∧ (y3 < 0 ∨ 2 < y3) then 1 else 0) ∧ (u_1 = 0 → u_2 (0 : Int32).toNatClampNeg = (0 : Int32).toInt64) := hw_4
  obtain ⟨hw_4, hp_5, hp_6⟩ := hw_4
  have hw_4 := hw_4.symm
  subst hw_4
  refine lv_istore (lv' := [(5, .int u_1), (4, .int 0), (3, .ref ou), (2, .ref mm), (1, .ref hh), (0, .ref b)]) hx hb dL_law_203 hl (by decide) rfl (fun ls hl => ?_)
  refine lv_aload_n hx hb dL_law_205 rfl (lv_at hl 3 rfl) ?_
  refine lv_aload_n hx hb dL_law_206 rfl (lv_at hl 5 rfl) ?_
  refine lv_iload hx hb dL_law_207 (lv_at hl 1 rfl) ?_
  refine lv_iconst (v := 1) hx hb dL_law_209 (by decide) ?_
  refine lv_iadd hx hb dL_law_210 ?_
  refine z_top (v' := .int 1) (congrArg Value.int (by decide)) ?_
  refine va_sld hx hb hX hbl hbA hS (by unfold vp_in; decide) dL_law_211 ?_
  refine z_top (v' := .int y1) (congrArg Value.int hy1) ?_
  refine lv_aload_n hx hb dL_law_212 rfl (lv_at hl 5 rfl) ?_
  refine lv_iload hx hb dL_law_213 (lv_at hl 1 rfl) ?_
  refine lv_iconst (v := 2) hx hb dL_law_215 (by decide) ?_
  refine lv_iadd hx hb dL_law_216 ?_
  refine z_top (v' := .int 2) (congrArg Value.int (by decide)) ?_
  refine va_sld hx hb hX hbl hbA hS (by unfold vp_in; decide) dL_law_217 ?_
  refine z_top (v' := .int y2) (congrArg Value.int hy2) ?_
  refine lv_aload_n hx hb dL_law_218 rfl (lv_at hl 5 rfl) ?_
  refine lv_iload hx hb dL_law_219 (lv_at hl 1 rfl) ?_
  refine lv_iconst (v := 3) hx hb dL_law_221 (by decide) ?_
  refine lv_iadd hx hb dL_law_222 ?_
  refine z_top (v' := .int 3) (congrArg Value.int (by decide)) ?_
  refine va_sld hx hb hX hbl hbA hS (by unfold vp_in; decide) dL_law_223 ?_
  refine z_top (v' := .int y3) (congrArg Value.int hy3) ?_
  refine z_i (wr := [(achoo, .inr (3, [.ref aroom, .ref ameth, .ref acand, .ref ahint, .int 0, .int (-1), .int 0, .int 0, .null])), (aroom, .inr (9, [.ref asort, .ref anod, .ref atold, .int 3, .ref aheld, .int 0, .ref apair, .ref astep, .int 0, .int 0, .int (-1), .int 0, .int 0, .ref asize])), (apair, .inr (8, [.ref apsl, .int 0, .int 0])), (asize, .inr (10, [.ref azsl, .int 0])), (anote, .inr (5, [.ref af1, .ref af2, .ref af3, .int 0])), (aexpr, .inr (1, [.int 0, .ref eD, .int 0])), (ameth, .inr (1, [.int 0, .ref eD, .int 0])), (astep, .inr (1, [.int 0, .ref eD, .int 0])), (atold, .inl (kI, 60, .inl zTold)), (nf, .inl (kL, 1024, .inr (.inl zFir))), (apsl, .inl (kL, 512, .inr (.inl (fun _ => 0)))), (azsl, .inl (kL, 0, .inr (.inl (fun _ => 0)))), (ou, .inl (kL, 1, .inr (.inl u_2)))]) (va_runV (As := [.int y1, .int y2, .int y3]) (rest := []) ⟨hx, hb, hml, hown, hts⟩ (c_M_sort l eD eI ad dC dI H.size mm ms mt mh me mo ma kO kT t0 t1 t2 i0 i1 i2 0 y1 y2 y3) (cwV 3 hts gl_c_M_sort rfl rfl rfl (by decide +kernel) ⟨Nat.le_of_ble_eq_true rfl, Nat.le_of_ble_eq_true rfl⟩) (z_preV (wc := [(mm, .inr (21, [.int 0, .ref ms, .ref mt, .ref mh, .ref me])), (ms, .inr (1, [.int 0, .ref eD, .int 0])), (mt, .inr (1, [.int mo, .ref ma, .int 3])), (mh, .inr (1, [.int 0, .ref eD, .int 0])), (me, .inr (1, [.int 0, .ref eD, .int 0])), (ma, .inl (kO, 10, .inr (.inr (.inr (.inr (zfT t0 t1 t2)))))), (t0, .inr (18, [.int (-1), .ref i0])), (t1, .inr (18, [.int (-2), .ref i1])), (t2, .inr (18, [.int (-3), .ref i2])), (i0, .inl (kT, 0, .inr (.inr (.inr (.inr (fun _ => none)))))), (i1, .inl (kT, 0, .inr (.inr (.inr (.inr (fun _ => none)))))), (i2, .inl (kT, 0, .inr (.inr (.inr (.inr (fun _ => none))))))]) hP hD hK hS hA hE [12, 13, 14, 15, 16, 17, 18, 19, 20, 21, 22, 23] [2, 3] rfl (by decide) rfl (ci := 21) (q0 := 0) rfl rfl) rfl rfl hl.1 rfl (lv_room (Nat.le_of_ble_eq_true rfl)) dL_law_224 ⟨Nat.le_of_ble_eq_true rfl, Nat.le_of_ble_eq_true rfl⟩) hP hD hK hS hA [12, 13, 14, 15, 16, 17, 18, 19, 20, 21, 22, 23] [0, 1, 2, 3, 4, 5, 6, 7, 8, 9, 10, 11, 24] rfl rfl (by decide) (by decide) (fun r_9 u H locs hw_10 hP hD hK hS => ?_)
  obtain ⟨u_7, u_8⟩ := u
  have hP : va_P (dC, dI) vwCl [(achoo, .inr (3, [.ref aroom, .ref ameth, .ref acand, .ref ahint, .int 0, .int (-1), .int 0, .int 0, .null])), (aroom, .inr (9, [.ref asort, .ref anod, .ref atold, .int 3, .ref aheld, .int 0, .ref apair, .ref astep, .int 0, .int 0, .int (-1), .int 0, .int 0, .ref asize])), (apair, .inr (8, [.ref apsl, .int 0, .int 0])), (asize, .inr (10, [.ref azsl, .int 0])), (anote, .inr (5, [.ref af1, .ref af2, .ref af3, .int 0])), (aexpr, .inr (1, [.int 0, .ref eD, .int 0])), (ameth, .inr (1, [.int 0, .ref eD, .int 0])), (astep, .inr (1, [.int 0, .ref eD, .int 0])), (atold, .inl (kI, 60, .inl zTold)), (nf, .inl (kL, 1024, .inr (.inl zFir))), (apsl, .inl (kL, 512, .inr (.inl (fun _ => 0)))), (azsl, .inl (kL, 0, .inr (.inl (fun _ => 0)))), (ou, .inl (kL, 1, .inr (.inl u_2))), (mm, .inr (21, [.int u_7, .ref ms, .ref mt, .ref mh, .ref me]))] H := hP
  have hD : va_D A [(achoo, .inr (3, [.ref aroom, .ref ameth, .ref acand, .ref ahint, .int 0, .int (-1), .int 0, .int 0, .null])), (aroom, .inr (9, [.ref asort, .ref anod, .ref atold, .int 3, .ref aheld, .int 0, .ref apair, .ref astep, .int 0, .int 0, .int (-1), .int 0, .int 0, .ref asize])), (apair, .inr (8, [.ref apsl, .int 0, .int 0])), (asize, .inr (10, [.ref azsl, .int 0])), (anote, .inr (5, [.ref af1, .ref af2, .ref af3, .int 0])), (aexpr, .inr (1, [.int 0, .ref eD, .int 0])), (ameth, .inr (1, [.int 0, .ref eD, .int 0])), (astep, .inr (1, [.int 0, .ref eD, .int 0])), (atold, .inl (kI, 60, .inl zTold)), (nf, .inl (kL, 1024, .inr (.inl zFir))), (apsl, .inl (kL, 512, .inr (.inl (fun _ => 0)))), (azsl, .inl (kL, 0, .inr (.inl (fun _ => 0)))), (ou, .inl (kL, 1, .inr (.inl u_2))), (mm, .inr (21, [.int u_7, .ref ms, .ref mt, .ref mh, .ref me]))] := hD
  have hK : va_K (dC, dI) vwCl [(kI, .int), (kL, .long), (kO, .object "java/lang/Object"), (kT, .object "HornbookModel$Tree"), (kL, .long)] s := by simpa using hK
  have hw_10 : r_9 = u_8 ∧ u_7 = (if y1 < 0 ∨ 2 < y1 then 1 else if ¬ y1 = 0 ∧ (y2 < 0 ∨ 2 < y2) then 1 else if y1 = 2 ∧ (y3 < 0 ∨ 2 < y3) then 1 else 0) ∧ (u_7 = 0 → u_8 = 0) := hw_10
  obtain ⟨hw_10, hp_11, hp_12⟩ := hw_10
  have hw_10 := hw_10.symm
  subst hw_10
  refine lv_istore (lv' := [(6, .int u_8), (5, .int u_1), (4, .int 0), (3, .ref ou), (2, .ref mm), (1, .ref hh), (0, .ref b)]) hx hb dL_law_227 hl (by decide) rfl (fun ls hl => ?_)
  have hk9 : u_1 = u_7 := hp_5.trans hp_11.symm
  subst hk9
  refine lv_aload_n hx hb dL_law_229 rfl (lv_at hl 4 rfl) ?_
  refine z_i (wr := [(achoo, .inr (3, [.ref aroom, .ref ameth, .ref acand, .ref ahint, .int 0, .int (-1), .int 0, .int 0, .null])), (aroom, .inr (9, [.ref asort, .ref anod, .ref atold, .int 3, .ref aheld, .int 0, .ref apair, .ref astep, .int 0, .int 0, .int (-1), .int 0, .int 0, .ref asize])), (apair, .inr (8, [.ref apsl, .int 0, .int 0])), (asize, .inr (10, [.ref azsl, .int 0])), (anote, .inr (5, [.ref af1, .ref af2, .ref af3, .int 0])), (aexpr, .inr (1, [.int 0, .ref eD, .int 0])), (ameth, .inr (1, [.int 0, .ref eD, .int 0])), (astep, .inr (1, [.int 0, .ref eD, .int 0])), (atold, .inl (kI, 60, .inl zTold)), (nf, .inl (kL, 1024, .inr (.inl zFir))), (apsl, .inl (kL, 512, .inr (.inl (fun _ => 0)))), (azsl, .inl (kL, 0, .inr (.inl (fun _ => 0)))), (ou, .inl (kL, 1, .inr (.inl u_2)))]) (va_runV (As := []) (rest := []) ⟨hx, hb, hml, hown, hts⟩ (c_M_thrown l eD eI ad dC dI H.size mm ((.ref ms)) ((.ref mt)) ((.ref mh)) ((.ref me)) u_1) (cwV 0 hts gl_c_M_thrown rfl rfl rfl (by decide +kernel) ⟨Nat.le_of_ble_eq_true rfl, Nat.le_of_ble_eq_true rfl⟩) (z_preV (wc := [(mm, .inr (21, [.int u_1, .ref ms, .ref mt, .ref mh, .ref me]))]) hP hD hK hS hA hE [13] [] rfl (by decide) rfl (ci := 21) (q0 := 0) rfl rfl) rfl rfl hl.1 rfl (lv_room (Nat.le_of_ble_eq_true rfl)) dL_law_230 ⟨Nat.le_of_ble_eq_true rfl, Nat.le_of_ble_eq_true rfl⟩) hP hD hK hS hA [13] [0, 1, 2, 3, 4, 5, 6, 7, 8, 9, 10, 11, 12] rfl rfl (by decide) (by decide) (fun r_13 u H locs hw_14 hP hD hK hS => ?_)
  obtain ⟨⟩ := u
  have hP : va_P (dC, dI) vwCl [(achoo, .inr (3, [.ref aroom, .ref ameth, .ref acand, .ref ahint, .int 0, .int (-1), .int 0, .int 0, .null])), (aroom, .inr (9, [.ref asort, .ref anod, .ref atold, .int 3, .ref aheld, .int 0, .ref apair, .ref astep, .int 0, .int 0, .int (-1), .int 0, .int 0, .ref asize])), (apair, .inr (8, [.ref apsl, .int 0, .int 0])), (asize, .inr (10, [.ref azsl, .int 0])), (anote, .inr (5, [.ref af1, .ref af2, .ref af3, .int 0])), (aexpr, .inr (1, [.int 0, .ref eD, .int 0])), (ameth, .inr (1, [.int 0, .ref eD, .int 0])), (astep, .inr (1, [.int 0, .ref eD, .int 0])), (atold, .inl (kI, 60, .inl zTold)), (nf, .inl (kL, 1024, .inr (.inl zFir))), (apsl, .inl (kL, 512, .inr (.inl (fun _ => 0)))), (azsl, .inl (kL, 0, .inr (.inl (fun _ => 0)))), (ou, .inl (kL, 1, .inr (.inl u_2))), (mm, .inr (21, [.int u_1, .ref ms, .ref mt, .ref mh, .ref me]))] H := hP
  have hD : va_D A [(achoo, .inr (3, [.ref aroom, .ref ameth, .ref acand, .ref ahint, .int 0, .int (-1), .int 0, .int 0, .null])), (aroom, .inr (9, [.ref asort, .ref anod, .ref atold, .int 3, .ref aheld, .int 0, .ref apair, .ref astep, .int 0, .int 0, .int (-1), .int 0, .int 0, .ref asize])), (apair, .inr (8, [.ref apsl, .int 0, .int 0])), (asize, .inr (10, [.ref azsl, .int 0])), (anote, .inr (5, [.ref af1, .ref af2, .ref af3, .int 0])), (aexpr, .inr (1, [.int 0, .ref eD, .int 0])), (ameth, .inr (1, [.int 0, .ref eD, .int 0])), (astep, .inr (1, [.int 0, .ref eD, .int 0])), (atold, .inl (kI, 60, .inl zTold)), (nf, .inl (kL, 1024, .inr (.inl zFir))), (apsl, .inl (kL, 512, .inr (.inl (fun _ => 0)))), (azsl, .inl (kL, 0, .inr (.inl (fun _ => 0)))), (ou, .inl (kL, 1, .inr (.inl u_2))), (mm, .inr (21, [.int u_1, .ref ms, .ref mt, .ref mh, .ref me]))] := hD
  have hK : va_K (dC, dI) vwCl [(kI, .int), (kL, .long), (kO, .object "java/lang/Object"), (kT, .object "HornbookModel$Tree"), (kL, .long)] s := by simpa using hK
  have hw_14 : r_13 = u_1 := hw_14
  have hw_14 := hw_14.symm
  subst hw_14
  refine lv_iload hx hb dL_law_233 (lv_at hl 1 rfl) ?_
  refine lv_icmp_eq (tgt := 240) hx hb dL_law_235 (by decide) (fun c_15 => ?_) (fun c_15 => ?_)
  rotate_left
  · exact absurd rfl c_15
  refine lv_iload hx hb dL_law_240 (lv_at hl 1 rfl) ?_
  refine lv_if_ne (tgt := 257) hx hb dL_law_242 (by decide) (fun c_16 => ?_) (fun c_16 => ?_)
  · refine lv_goto (tgt := 2196) hx hb dL_law_257 (by decide) ?_
    exact law_tail l Z hS (lv_sub hl [2, 6] rfl) (Nat.le_of_ble_eq_true rfl) (Nat.le_of_ble_eq_true rfl)
  · refine lv_aload_n hx hb dL_law_245 rfl (lv_at hl 3 rfl) ?_
    have hf9 := hp_6 c_16
    have hv9 := hp_12 c_16
    refine lv_iconst (v := 0) hx hb dL_law_246 (by decide) ?_
    refine va_lald (D := (dC, dI)) hx hb hK hP 12 1 rfl rfl (by unfold vp_in; decide) dL_law_247 ?_
    refine lv_iload hx hb dL_law_248 (lv_at hl 0 rfl) ?_
    refine lv_i2l (v := u_8.toInt64) hx hb dL_law_250 rfl ?_
    refine W.lcmp hx hb dL_law_251 ?_
    refine z_top (v' := .int 0) (congrArg Value.int (by rw [hf9, hv9]; exact z_cmp0 _)) ?_
    refine lv_if_eq (tgt := 257) hx hb dL_law_252 (by decide) (fun c_17 => ?_) (fun c_17 => ?_)
    rotate_left
    · exact absurd (by decide) c_17
    refine lv_goto (tgt := 2196) hx hb dL_law_257 (by decide) ?_
    exact law_tail l Z hS (lv_sub hl [2, 6] rfl) (Nat.le_of_ble_eq_true rfl) (Nat.le_of_ble_eq_true rfl)

set_option maxHeartbeats 4000000 in
set_option maxRecDepth 100000 in
theorem law_case_1 {p : Program} {e : Env} {s : State} {m : MethodId} {below : List Frame} {meth : Method} {c : Code} (l : Launch) {b : Nat} {xs : Nat → Int32} {A : Nat → Prop} {eD eI : Nat} {ad : Nat → Nat} (Z : zLaw l p s m meth c b xs A eD eI ad) (y1 : Int32) (hy1 : xs (1 : Int32).toNatClampNeg = y1) (y2 : Int32) (hy2 : xs (2 : Int32).toNatClampNeg = y2) (y3 : Int32) (hy3 : xs (3 : Int32).toNatClampNeg = y3) (y4 : Int32) (hy4 : xs (4 : Int32).toNatClampNeg = y4) (y5 : Int32) (hy5 : xs (5 : Int32).toNatClampNeg = y5) (y6 : Int32) (hy6 : xs (6 : Int32).toNatClampNeg = y6) (dC : Nat → ClassId) (dI : Nat → Nat → Nat) (hh : Nat) (aexpr : Nat) (achoo : Nat) (ameth : Nat) (aroom : Nat) (anod : Nat) (asort : Nat) (anote : Nat) (amet : Nat) (atold : Nat) (aheld : Nat) (apair : Nat) (astep : Nat) (asize : Nat) (nm : Nat) (nl : Nat) (n1 : Nat) (n2 : Nat) (nf : Nat) (ns : Nat) (nh : Nat) (nk : Nat) (np : Nat) (apsl : Nat) (azsl : Nat) (acand : Nat) (ahint : Nat) (af1 : Nat) (af2 : Nat) (af3 : Nat) (ou : Nat) (mm : Nat) (ms : Nat) (mt : Nat) (mh : Nat) (me : Nat) (ma : Nat) (t0 : Nat) (t1 : Nat) (t2 : Nat) (i0 : Nat) (i1 : Nat) (i2 : Nat) (kI : ClassId) (kL : ClassId) (kO : ClassId) (kT : ClassId) (mo : Int32) (fo : Nat → Int64) {H : Heap} {locs : List Loc} {ls : Array Slot} (hP : va_P (dC, dI) vwCl [(hh, .inr (13, [.ref aexpr, .ref achoo, .ref ameth, .ref aroom, .ref anod, .ref asort, .ref anote, .ref amet, .int 0, .int 1])), (achoo, .inr (3, [.ref aroom, .ref ameth, .ref acand, .ref ahint, .int 0, .int (-1), .int 0, .int 0, .null])), (aroom, .inr (9, [.ref asort, .ref anod, .ref atold, .int 3, .ref aheld, .int 0, .ref apair, .ref astep, .int 0, .int 0, .int (-1), .int 0, .int 0, .ref asize])), (anod, .inr (7, [.ref nm, .ref nl, .ref n1, .ref n2, .ref nf, .ref ns, .ref nh, .ref nk, .ref np, .int 16, .int 0, .int 16, .int 0, .int 0])), (apair, .inr (8, [.ref apsl, .int 0, .int 0])), (asize, .inr (10, [.ref azsl, .int 0])), (anote, .inr (5, [.ref af1, .ref af2, .ref af3, .int 0])), (aexpr, .inr (1, [.int 0, .ref eD, .int 0])), (ameth, .inr (1, [.int 0, .ref eD, .int 0])), (asort, .inr (1, [.int 0, .ref eD, .int 0])), (astep, .inr (1, [.int 0, .ref eD, .int 0])), (atold, .inl (kI, 60, .inl zTold)), (ns, .inl (kL, 1024, .inr (.inl zSec))), (nf, .inl (kL, 1024, .inr (.inl zFir))), (nm, .inl (kI, 12, .inl (fun _ => 0))), (nl, .inl (kI, 12, .inl (fun _ => 0))), (n1, .inl (kI, 12, .inl (fun _ => 0))), (n2, .inl (kI, 12, .inl (fun _ => 0))), (apsl, .inl (kL, 512, .inr (.inl (fun _ => 0)))), (azsl, .inl (kL, 0, .inr (.inl (fun _ => 0)))), (mm, .inr (21, [.int 0, .ref ms, .ref mt, .ref mh, .ref me])), (ms, .inr (1, [.int 0, .ref eD, .int 0])), (mt, .inr (1, [.int mo, .ref ma, .int 3])), (mh, .inr (1, [.int 0, .ref eD, .int 0])), (me, .inr (1, [.int 0, .ref eD, .int 0])), (ma, .inl (kO, 10, .inr (.inr (.inr (.inr (zfT t0 t1 t2)))))), (t0, .inr (18, [.int (-1), .ref i0])), (t1, .inr (18, [.int (-2), .ref i1])), (t2, .inr (18, [.int (-3), .ref i2])), (i0, .inl (kT, 0, .inr (.inr (.inr (.inr (fun _ => none)))))), (i1, .inl (kT, 0, .inr (.inr (.inr (.inr (fun _ => none)))))), (i2, .inl (kT, 0, .inr (.inr (.inr (.inr (fun _ => none)))))), (ou, .inl (kL, 1, .inr (.inl fo)))] H) (hD : va_D A [(hh, .inr (13, [.ref aexpr, .ref achoo, .ref ameth, .ref aroom, .ref anod, .ref asort, .ref anote, .ref amet, .int 0, .int 1])), (achoo, .inr (3, [.ref aroom, .ref ameth, .ref acand, .ref ahint, .int 0, .int (-1), .int 0, .int 0, .null])), (aroom, .inr (9, [.ref asort, .ref anod, .ref atold, .int 3, .ref aheld, .int 0, .ref apair, .ref astep, .int 0, .int 0, .int (-1), .int 0, .int 0, .ref asize])), (anod, .inr (7, [.ref nm, .ref nl, .ref n1, .ref n2, .ref nf, .ref ns, .ref nh, .ref nk, .ref np, .int 16, .int 0, .int 16, .int 0, .int 0])), (apair, .inr (8, [.ref apsl, .int 0, .int 0])), (asize, .inr (10, [.ref azsl, .int 0])), (anote, .inr (5, [.ref af1, .ref af2, .ref af3, .int 0])), (aexpr, .inr (1, [.int 0, .ref eD, .int 0])), (ameth, .inr (1, [.int 0, .ref eD, .int 0])), (asort, .inr (1, [.int 0, .ref eD, .int 0])), (astep, .inr (1, [.int 0, .ref eD, .int 0])), (atold, .inl (kI, 60, .inl zTold)), (ns, .inl (kL, 1024, .inr (.inl zSec))), (nf, .inl (kL, 1024, .inr (.inl zFir))), (nm, .inl (kI, 12, .inl (fun _ => 0))), (nl, .inl (kI, 12, .inl (fun _ => 0))), (n1, .inl (kI, 12, .inl (fun _ => 0))), (n2, .inl (kI, 12, .inl (fun _ => 0))), (apsl, .inl (kL, 512, .inr (.inl (fun _ => 0)))), (azsl, .inl (kL, 0, .inr (.inl (fun _ => 0)))), (mm, .inr (21, [.int 0, .ref ms, .ref mt, .ref mh, .ref me])), (ms, .inr (1, [.int 0, .ref eD, .int 0])), (mt, .inr (1, [.int mo, .ref ma, .int 3])), (mh, .inr (1, [.int 0, .ref eD, .int 0])), (me, .inr (1, [.int 0, .ref eD, .int 0])), (ma, .inl (kO, 10, .inr (.inr (.inr (.inr (zfT t0 t1 t2)))))), (t0, .inr (18, [.int (-1), .ref i0])), (t1, .inr (18, [.int (-2), .ref i1])), (t2, .inr (18, [.int (-3), .ref i2])), (i0, .inl (kT, 0, .inr (.inr (.inr (.inr (fun _ => none)))))), (i1, .inl (kT, 0, .inr (.inr (.inr (.inr (fun _ => none)))))), (i2, .inl (kT, 0, .inr (.inr (.inr (.inr (fun _ => none)))))), (ou, .inl (kL, 1, .inr (.inl fo)))]) (hK : va_K (dC, dI) vwCl [(kI, .int), (kL, .long), (kO, .object "java/lang/Object"), (kT, .object "HornbookModel$Tree")] s) (hS : va_S A s.heap H locs) (hl : lv_has ls 9 [(4, .int 0), (3, .ref ou), (2, .ref mm), (1, .ref hh), (0, .ref b)]) : W p l e room_1 s m #[Value.ref b] below meth c H locs 74 3613 (lw_Z below #[Value.ref b] s) (F0 m 260 ls []) := by
  obtain ⟨hfl, hx, hb, hr, hml, hown, hts, hX, hbl, hbA, hlocks, hE, hA, hAs, hDc⟩ := id Z
  have in_RJx4a65c : ∀ w ∈ u_ws RJx4a65c TJx4a65c 3, w ∈ lw_tbl := by decide +kernel
  have in_RX11 : ∀ w ∈ u_ws RX11 TX11 10, w ∈ lw_tbl := by decide +kernel
  have in_RX19 : ∀ w ∈ u_ws RX19 TX19 5, w ∈ lw_tbl := by decide +kernel
  refine lv_aload_n hx hb dL_law_260 rfl (lv_at hl 3 rfl) ?_
  refine lv_aload_n hx hb dL_law_261 rfl (lv_at hl 4 rfl) ?_
  refine lv_iload hx hb dL_law_262 (lv_at hl 0 rfl) ?_
  refine lv_iconst (v := 1) hx hb dL_law_264 (by decide) ?_
  refine lv_iadd hx hb dL_law_265 ?_
  refine z_top (v' := .int 1) (congrArg Value.int (by decide)) ?_
  refine va_sld hx hb hX hbl hbA hS (by unfold vp_in; decide) dL_law_266 ?_
  refine z_top (v' := .int y1) (congrArg Value.int hy1) ?_
  refine lv_aload_n hx hb dL_law_267 rfl (lv_at hl 4 rfl) ?_
  refine lv_iload hx hb dL_law_268 (lv_at hl 0 rfl) ?_
  refine lv_iconst (v := 2) hx hb dL_law_270 (by decide) ?_
  refine lv_iadd hx hb dL_law_271 ?_
  refine z_top (v' := .int 2) (congrArg Value.int (by decide)) ?_
  refine va_sld hx hb hX hbl hbA hS (by unfold vp_in; decide) dL_law_272 ?_
  refine z_top (v' := .int y2) (congrArg Value.int hy2) ?_
  refine lv_aload_n hx hb dL_law_273 rfl (lv_at hl 1 rfl) ?_
  refine zx_i (wr := [(achoo, .inr (3, [.ref aroom, .ref ameth, .ref acand, .ref ahint, .int 0, .int (-1), .int 0, .int 0, .null])), (aroom, .inr (9, [.ref asort, .ref anod, .ref atold, .int 3, .ref aheld, .int 0, .ref apair, .ref astep, .int 0, .int 0, .int (-1), .int 0, .int 0, .ref asize])), (anod, .inr (7, [.ref nm, .ref nl, .ref n1, .ref n2, .ref nf, .ref ns, .ref nh, .ref nk, .ref np, .int 16, .int 0, .int 16, .int 0, .int 0])), (apair, .inr (8, [.ref apsl, .int 0, .int 0])), (asize, .inr (10, [.ref azsl, .int 0])), (anote, .inr (5, [.ref af1, .ref af2, .ref af3, .int 0])), (aexpr, .inr (1, [.int 0, .ref eD, .int 0])), (ameth, .inr (1, [.int 0, .ref eD, .int 0])), (astep, .inr (1, [.int 0, .ref eD, .int 0])), (atold, .inl (kI, 60, .inl zTold)), (ns, .inl (kL, 1024, .inr (.inl zSec))), (nf, .inl (kL, 1024, .inr (.inl zFir))), (nm, .inl (kI, 12, .inl (fun _ => 0))), (nl, .inl (kI, 12, .inl (fun _ => 0))), (n1, .inl (kI, 12, .inl (fun _ => 0))), (n2, .inl (kI, 12, .inl (fun _ => 0))), (apsl, .inl (kL, 512, .inr (.inl (fun _ => 0)))), (azsl, .inl (kL, 0, .inr (.inl (fun _ => 0)))), (mm, .inr (21, [.int 0, .ref ms, .ref mt, .ref mh, .ref me])), (ms, .inr (1, [.int 0, .ref eD, .int 0])), (mt, .inr (1, [.int mo, .ref ma, .int 3])), (mh, .inr (1, [.int 0, .ref eD, .int 0])), (me, .inr (1, [.int 0, .ref eD, .int 0])), (ma, .inl (kO, 10, .inr (.inr (.inr (.inr (zfT t0 t1 t2)))))), (t0, .inr (18, [.int (-1), .ref i0])), (t1, .inr (18, [.int (-2), .ref i1])), (t2, .inr (18, [.int (-3), .ref i2])), (i0, .inl (kT, 0, .inr (.inr (.inr (.inr (fun _ => none)))))), (i1, .inl (kT, 0, .inr (.inr (.inr (.inr (fun _ => none)))))), (i2, .inl (kT, 0, .inr (.inr (.inr (.inr (fun _ => none))))))]) (vx_runS (As := [.ref hh, .int y1, .int y2, .ref ou]) (rest := []) ⟨hx, hb, hml, hown, hts⟩ (c_L_parent l hfl eD eI ad dC dI H.size hh aexpr achoo ameth aroom anod asort anote amet ou kL y1 y2 fo) (va_cwS 4 hts gl_c_L_parent rfl rfl rfl (by decide +kernel) ⟨Nat.le_of_ble_eq_true rfl, Nat.le_of_ble_eq_true rfl⟩) (z_preSD (wc := [(hh, .inr (13, [.ref aexpr, .ref achoo, .ref ameth, .ref aroom, .ref anod, .ref asort, .ref anote, .ref amet, .int 0, .int 1])), (asort, .inr (1, [.int 0, .ref eD, .int 0])), (ou, .inl (kL, 1, .inr (.inl fo)))]) hP hD hK hS hA hE [0, 9, 32] [1] rfl (by decide) rfl hDc) rfl rfl hl.1 rfl (lv_room (Nat.le_of_ble_eq_true rfl)) dL_law_274 ⟨Nat.le_of_ble_eq_true rfl, Nat.le_of_ble_eq_true rfl⟩) hP hD hK hS hA [0, 9, 32] [1, 2, 3, 4, 5, 6, 7, 8, 10, 11, 12, 13, 14, 15, 16, 17, 18, 19, 20, 21, 22, 23, 24, 25, 26, 27, 28, 29, 30, 31] rfl rfl (by decide) (by decide) (fun E ce q9 H locs hbad hP hD hS h91 h92 h93 => ?_) (fun r_1 u H locs hw_2 hP hD hK hS => ?_)
  · exact absurd hbad id
  obtain ⟨⟩ := u
  have hP : va_P (dC, dI) vwCl [(achoo, .inr (3, [.ref aroom, .ref ameth, .ref acand, .ref ahint, .int 0, .int (-1), .int 0, .int 0, .null])), (aroom, .inr (9, [.ref asort, .ref anod, .ref atold, .int 3, .ref aheld, .int 0, .ref apair, .ref astep, .int 0, .int 0, .int (-1), .int 0, .int 0, .ref asize])), (anod, .inr (7, [.ref nm, .ref nl, .ref n1, .ref n2, .ref nf, .ref ns, .ref nh, .ref nk, .ref np, .int 16, .int 0, .int 16, .int 0, .int 0])), (apair, .inr (8, [.ref apsl, .int 0, .int 0])), (asize, .inr (10, [.ref azsl, .int 0])), (anote, .inr (5, [.ref af1, .ref af2, .ref af3, .int 0])), (aexpr, .inr (1, [.int 0, .ref eD, .int 0])), (ameth, .inr (1, [.int 0, .ref eD, .int 0])), (astep, .inr (1, [.int 0, .ref eD, .int 0])), (atold, .inl (kI, 60, .inl zTold)), (ns, .inl (kL, 1024, .inr (.inl zSec))), (nf, .inl (kL, 1024, .inr (.inl zFir))), (nm, .inl (kI, 12, .inl (fun _ => 0))), (nl, .inl (kI, 12, .inl (fun _ => 0))), (n1, .inl (kI, 12, .inl (fun _ => 0))), (n2, .inl (kI, 12, .inl (fun _ => 0))), (apsl, .inl (kL, 512, .inr (.inl (fun _ => 0)))), (azsl, .inl (kL, 0, .inr (.inl (fun _ => 0)))), (mm, .inr (21, [.int 0, .ref ms, .ref mt, .ref mh, .ref me])), (ms, .inr (1, [.int 0, .ref eD, .int 0])), (mt, .inr (1, [.int mo, .ref ma, .int 3])), (mh, .inr (1, [.int 0, .ref eD, .int 0])), (me, .inr (1, [.int 0, .ref eD, .int 0])), (ma, .inl (kO, 10, .inr (.inr (.inr (.inr (zfT t0 t1 t2)))))), (t0, .inr (18, [.int (-1), .ref i0])), (t1, .inr (18, [.int (-2), .ref i1])), (t2, .inr (18, [.int (-3), .ref i2])), (i0, .inl (kT, 0, .inr (.inr (.inr (.inr (fun _ => none)))))), (i1, .inl (kT, 0, .inr (.inr (.inr (.inr (fun _ => none)))))), (i2, .inl (kT, 0, .inr (.inr (.inr (.inr (fun _ => none)))))), (ou, .inl (kL, 1, .inr (.inl fo)))] H := hP
  have hD : va_D A [(achoo, .inr (3, [.ref aroom, .ref ameth, .ref acand, .ref ahint, .int 0, .int (-1), .int 0, .int 0, .null])), (aroom, .inr (9, [.ref asort, .ref anod, .ref atold, .int 3, .ref aheld, .int 0, .ref apair, .ref astep, .int 0, .int 0, .int (-1), .int 0, .int 0, .ref asize])), (anod, .inr (7, [.ref nm, .ref nl, .ref n1, .ref n2, .ref nf, .ref ns, .ref nh, .ref nk, .ref np, .int 16, .int 0, .int 16, .int 0, .int 0])), (apair, .inr (8, [.ref apsl, .int 0, .int 0])), (asize, .inr (10, [.ref azsl, .int 0])), (anote, .inr (5, [.ref af1, .ref af2, .ref af3, .int 0])), (aexpr, .inr (1, [.int 0, .ref eD, .int 0])), (ameth, .inr (1, [.int 0, .ref eD, .int 0])), (astep, .inr (1, [.int 0, .ref eD, .int 0])), (atold, .inl (kI, 60, .inl zTold)), (ns, .inl (kL, 1024, .inr (.inl zSec))), (nf, .inl (kL, 1024, .inr (.inl zFir))), (nm, .inl (kI, 12, .inl (fun _ => 0))), (nl, .inl (kI, 12, .inl (fun _ => 0))), (n1, .inl (kI, 12, .inl (fun _ => 0))), (n2, .inl (kI, 12, .inl (fun _ => 0))), (apsl, .inl (kL, 512, .inr (.inl (fun _ => 0)))), (azsl, .inl (kL, 0, .inr (.inl (fun _ => 0)))), (mm, .inr (21, [.int 0, .ref ms, .ref mt, .ref mh, .ref me])), (ms, .inr (1, [.int 0, .ref eD, .int 0])), (mt, .inr (1, [.int mo, .ref ma, .int 3])), (mh, .inr (1, [.int 0, .ref eD, .int 0])), (me, .inr (1, [.int 0, .ref eD, .int 0])), (ma, .inl (kO, 10, .inr (.inr (.inr (.inr (zfT t0 t1 t2)))))), (t0, .inr (18, [.int (-1), .ref i0])), (t1, .inr (18, [.int (-2), .ref i1])), (t2, .inr (18, [.int (-3), .ref i2])), (i0, .inl (kT, 0, .inr (.inr (.inr (.inr (fun _ => none)))))), (i1, .inl (kT, 0, .inr (.inr (.inr (.inr (fun _ => none)))))), (i2, .inl (kT, 0, .inr (.inr (.inr (.inr (fun _ => none)))))), (ou, .inl (kL, 1, .inr (.inl fo)))] := hD
  have hK : va_K (dC, dI) vwCl [(kI, .int), (kL, .long), (kO, .object "java/lang/Object"), (kT, .object "HornbookModel$Tree"), (kL, .long)] s := hK
  have hw_2 : r_1 = 1 := hw_2
  have hw_2 := hw_2.symm
  subst hw_2
  refine lv_istore (lv' := [(5, .int 1), (4, .int 0), (3, .ref ou), (2, .ref mm), (1, .ref hh), (0, .ref b)]) hx hb dL_law_277 hl (by decide) rfl (fun ls hl => ?_)
  refine lv_aload_n hx hb dL_law_279 rfl (lv_at hl 3 rfl) ?_
  refine lv_aload_n hx hb dL_law_280 rfl (lv_at hl 5 rfl) ?_
  refine lv_iload hx hb dL_law_281 (lv_at hl 1 rfl) ?_
  refine lv_iconst (v := 1) hx hb dL_law_283 (by decide) ?_
  refine lv_iadd hx hb dL_law_284 ?_
  refine z_top (v' := .int 1) (congrArg Value.int (by decide)) ?_
  refine va_sld hx hb hX hbl hbA hS (by unfold vp_in; decide) dL_law_285 ?_
  refine z_top (v' := .int y1) (congrArg Value.int hy1) ?_
  refine lv_aload_n hx hb dL_law_286 rfl (lv_at hl 5 rfl) ?_
  refine lv_iload hx hb dL_law_287 (lv_at hl 1 rfl) ?_
  refine lv_iconst (v := 2) hx hb dL_law_289 (by decide) ?_
  refine lv_iadd hx hb dL_law_290 ?_
  refine z_top (v' := .int 2) (congrArg Value.int (by decide)) ?_
  refine va_sld hx hb hX hbl hbA hS (by unfold vp_in; decide) dL_law_291 ?_
  refine z_top (v' := .int y2) (congrArg Value.int hy2) ?_
  refine z_i (wr := [(achoo, .inr (3, [.ref aroom, .ref ameth, .ref acand, .ref ahint, .int 0, .int (-1), .int 0, .int 0, .null])), (aroom, .inr (9, [.ref asort, .ref anod, .ref atold, .int 3, .ref aheld, .int 0, .ref apair, .ref astep, .int 0, .int 0, .int (-1), .int 0, .int 0, .ref asize])), (anod, .inr (7, [.ref nm, .ref nl, .ref n1, .ref n2, .ref nf, .ref ns, .ref nh, .ref nk, .ref np, .int 16, .int 0, .int 16, .int 0, .int 0])), (apair, .inr (8, [.ref apsl, .int 0, .int 0])), (asize, .inr (10, [.ref azsl, .int 0])), (anote, .inr (5, [.ref af1, .ref af2, .ref af3, .int 0])), (aexpr, .inr (1, [.int 0, .ref eD, .int 0])), (ameth, .inr (1, [.int 0, .ref eD, .int 0])), (astep, .inr (1, [.int 0, .ref eD, .int 0])), (atold, .inl (kI, 60, .inl zTold)), (ns, .inl (kL, 1024, .inr (.inl zSec))), (nf, .inl (kL, 1024, .inr (.inl zFir))), (nm, .inl (kI, 12, .inl (fun _ => 0))), (nl, .inl (kI, 12, .inl (fun _ => 0))), (n1, .inl (kI, 12, .inl (fun _ => 0))), (n2, .inl (kI, 12, .inl (fun _ => 0))), (apsl, .inl (kL, 512, .inr (.inl (fun _ => 0)))), (azsl, .inl (kL, 0, .inr (.inl (fun _ => 0)))), (ou, .inl (kL, 1, .inr (.inl fo)))]) (va_runV (As := [.int y1, .int y2]) (rest := []) ⟨hx, hb, hml, hown, hts⟩ (c_M_parent l eD eI ad dC dI H.size mm ms mt mh me mo ma kO kT t0 t1 t2 i0 i1 i2 0 y1 y2) (cwV 2 hts gl_c_M_parent rfl rfl rfl (by decide +kernel) ⟨Nat.le_of_ble_eq_true rfl, Nat.le_of_ble_eq_true rfl⟩) (z_preV (wc := [(mm, .inr (21, [.int 0, .ref ms, .ref mt, .ref mh, .ref me])), (ms, .inr (1, [.int 0, .ref eD, .int 0])), (mt, .inr (1, [.int mo, .ref ma, .int 3])), (mh, .inr (1, [.int 0, .ref eD, .int 0])), (me, .inr (1, [.int 0, .ref eD, .int 0])), (ma, .inl (kO, 10, .inr (.inr (.inr (.inr (zfT t0 t1 t2)))))), (t0, .inr (18, [.int (-1), .ref i0])), (t1, .inr (18, [.int (-2), .ref i1])), (t2, .inr (18, [.int (-3), .ref i2])), (i0, .inl (kT, 0, .inr (.inr (.inr (.inr (fun _ => none)))))), (i1, .inl (kT, 0, .inr (.inr (.inr (.inr (fun _ => none)))))), (i2, .inl (kT, 0, .inr (.inr (.inr (.inr (fun _ => none))))))]) hP hD hK hS hA hE [18, 19, 20, 21, 22, 23, 24, 25, 26, 27, 28, 29] [2, 3] rfl (by decide) rfl (ci := 21) (q0 := 0) rfl rfl) rfl rfl hl.1 rfl (lv_room (Nat.le_of_ble_eq_true rfl)) dL_law_292 ⟨Nat.le_of_ble_eq_true rfl, Nat.le_of_ble_eq_true rfl⟩) hP hD hK hS hA [18, 19, 20, 21, 22, 23, 24, 25, 26, 27, 28, 29] [0, 1, 2, 3, 4, 5, 6, 7, 8, 9, 10, 11, 12, 13, 14, 15, 16, 17, 30] rfl rfl (by decide) (by decide) (fun r_5 u H locs hw_6 hP hD hK hS => ?_)
  obtain ⟨u_3, u_4⟩ := u
  have hP : va_P (dC, dI) vwCl [(achoo, .inr (3, [.ref aroom, .ref ameth, .ref acand, .ref ahint, .int 0, .int (-1), .int 0, .int 0, .null])), (aroom, .inr (9, [.ref asort, .ref anod, .ref atold, .int 3, .ref aheld, .int 0, .ref apair, .ref astep, .int 0, .int 0, .int (-1), .int 0, .int 0, .ref asize])), (anod, .inr (7, [.ref nm, .ref nl, .ref n1, .ref n2, .ref nf, .ref ns, .ref nh, .ref nk, .ref np, .int 16, .int 0, .int 16, .int 0, .int 0])), (apair, .inr (8, [.ref apsl, .int 0, .int 0])), (asize, .inr (10, [.ref azsl, .int 0])), (anote, .inr (5, [.ref af1, .ref af2, .ref af3, .int 0])), (aexpr, .inr (1, [.int 0, .ref eD, .int 0])), (ameth, .inr (1, [.int 0, .ref eD, .int 0])), (astep, .inr (1, [.int 0, .ref eD, .int 0])), (atold, .inl (kI, 60, .inl zTold)), (ns, .inl (kL, 1024, .inr (.inl zSec))), (nf, .inl (kL, 1024, .inr (.inl zFir))), (nm, .inl (kI, 12, .inl (fun _ => 0))), (nl, .inl (kI, 12, .inl (fun _ => 0))), (n1, .inl (kI, 12, .inl (fun _ => 0))), (n2, .inl (kI, 12, .inl (fun _ => 0))), (apsl, .inl (kL, 512, .inr (.inl (fun _ => 0)))), (azsl, .inl (kL, 0, .inr (.inl (fun _ => 0)))), (ou, .inl (kL, 1, .inr (.inl fo))), (mm, .inr (21, [.int u_3, .ref ms, .ref mt, .ref mh, .ref me]))] H := hP
  have hD : va_D A [(achoo, .inr (3, [.ref aroom, .ref ameth, .ref acand, .ref ahint, .int 0, .int (-1), .int 0, .int 0, .null])), (aroom, .inr (9, [.ref asort, .ref anod, .ref atold, .int 3, .ref aheld, .int 0, .ref apair, .ref astep, .int 0, .int 0, .int (-1), .int 0, .int 0, .ref asize])), (anod, .inr (7, [.ref nm, .ref nl, .ref n1, .ref n2, .ref nf, .ref ns, .ref nh, .ref nk, .ref np, .int 16, .int 0, .int 16, .int 0, .int 0])), (apair, .inr (8, [.ref apsl, .int 0, .int 0])), (asize, .inr (10, [.ref azsl, .int 0])), (anote, .inr (5, [.ref af1, .ref af2, .ref af3, .int 0])), (aexpr, .inr (1, [.int 0, .ref eD, .int 0])), (ameth, .inr (1, [.int 0, .ref eD, .int 0])), (astep, .inr (1, [.int 0, .ref eD, .int 0])), (atold, .inl (kI, 60, .inl zTold)), (ns, .inl (kL, 1024, .inr (.inl zSec))), (nf, .inl (kL, 1024, .inr (.inl zFir))), (nm, .inl (kI, 12, .inl (fun _ => 0))), (nl, .inl (kI, 12, .inl (fun _ => 0))), (n1, .inl (kI, 12, .inl (fun _ => 0))), (n2, .inl (kI, 12, .inl (fun _ => 0))), (apsl, .inl (kL, 512, .inr (.inl (fun _ => 0)))), (azsl, .inl (kL, 0, .inr (.inl (fun _ => 0)))), (ou, .inl (kL, 1, .inr (.inl fo))), (mm, .inr (21, [.int u_3, .ref ms, .ref mt, .ref mh, .ref me]))] := hD
  have hK : va_K (dC, dI) vwCl [(kI, .int), (kL, .long), (kO, .object "java/lang/Object"), (kT, .object "HornbookModel$Tree"), (kL, .long)] s := by simpa using hK
  have hw_6 : r_5 = u_4 ∧ u_3 = 1 := hw_6
  obtain ⟨hw_6, hp_7⟩ := hw_6
  have hw_6 := hw_6.symm
  subst hw_6
  refine lv_istore (lv' := [(6, .int u_4), (5, .int 1), (4, .int 0), (3, .ref ou), (2, .ref mm), (1, .ref hh), (0, .ref b)]) hx hb dL_law_295 hl (by decide) rfl (fun ls hl => ?_)
  subst hp_7
  refine lv_aload_n hx hb dL_law_297 rfl (lv_at hl 4 rfl) ?_
  refine z_i (wr := [(achoo, .inr (3, [.ref aroom, .ref ameth, .ref acand, .ref ahint, .int 0, .int (-1), .int 0, .int 0, .null])), (aroom, .inr (9, [.ref asort, .ref anod, .ref atold, .int 3, .ref aheld, .int 0, .ref apair, .ref astep, .int 0, .int 0, .int (-1), .int 0, .int 0, .ref asize])), (anod, .inr (7, [.ref nm, .ref nl, .ref n1, .ref n2, .ref nf, .ref ns, .ref nh, .ref nk, .ref np, .int 16, .int 0, .int 16, .int 0, .int 0])), (apair, .inr (8, [.ref apsl, .int 0, .int 0])), (asize, .inr (10, [.ref azsl, .int 0])), (anote, .inr (5, [.ref af1, .ref af2, .ref af3, .int 0])), (aexpr, .inr (1, [.int 0, .ref eD, .int 0])), (ameth, .inr (1, [.int 0, .ref eD, .int 0])), (astep, .inr (1, [.int 0, .ref eD, .int 0])), (atold, .inl (kI, 60, .inl zTold)), (ns, .inl (kL, 1024, .inr (.inl zSec))), (nf, .inl (kL, 1024, .inr (.inl zFir))), (nm, .inl (kI, 12, .inl (fun _ => 0))), (nl, .inl (kI, 12, .inl (fun _ => 0))), (n1, .inl (kI, 12, .inl (fun _ => 0))), (n2, .inl (kI, 12, .inl (fun _ => 0))), (apsl, .inl (kL, 512, .inr (.inl (fun _ => 0)))), (azsl, .inl (kL, 0, .inr (.inl (fun _ => 0)))), (ou, .inl (kL, 1, .inr (.inl fo)))]) (va_runV (As := []) (rest := []) ⟨hx, hb, hml, hown, hts⟩ (c_M_thrown l eD eI ad dC dI H.size mm ((.ref ms)) ((.ref mt)) ((.ref mh)) ((.ref me)) 1) (cwV 0 hts gl_c_M_thrown rfl rfl rfl (by decide +kernel) ⟨Nat.le_of_ble_eq_true rfl, Nat.le_of_ble_eq_true rfl⟩) (z_preV (wc := [(mm, .inr (21, [.int 1, .ref ms, .ref mt, .ref mh, .ref me]))]) hP hD hK hS hA hE [19] [] rfl (by decide) rfl (ci := 21) (q0 := 0) rfl rfl) rfl rfl hl.1 rfl (lv_room (Nat.le_of_ble_eq_true rfl)) dL_law_298 ⟨Nat.le_of_ble_eq_true rfl, Nat.le_of_ble_eq_true rfl⟩) hP hD hK hS hA [19] [0, 1, 2, 3, 4, 5, 6, 7, 8, 9, 10, 11, 12, 13, 14, 15, 16, 17, 18] rfl rfl (by decide) (by decide) (fun r_8 u H locs hw_9 hP hD hK hS => ?_)
  obtain ⟨⟩ := u
  have hP : va_P (dC, dI) vwCl [(achoo, .inr (3, [.ref aroom, .ref ameth, .ref acand, .ref ahint, .int 0, .int (-1), .int 0, .int 0, .null])), (aroom, .inr (9, [.ref asort, .ref anod, .ref atold, .int 3, .ref aheld, .int 0, .ref apair, .ref astep, .int 0, .int 0, .int (-1), .int 0, .int 0, .ref asize])), (anod, .inr (7, [.ref nm, .ref nl, .ref n1, .ref n2, .ref nf, .ref ns, .ref nh, .ref nk, .ref np, .int 16, .int 0, .int 16, .int 0, .int 0])), (apair, .inr (8, [.ref apsl, .int 0, .int 0])), (asize, .inr (10, [.ref azsl, .int 0])), (anote, .inr (5, [.ref af1, .ref af2, .ref af3, .int 0])), (aexpr, .inr (1, [.int 0, .ref eD, .int 0])), (ameth, .inr (1, [.int 0, .ref eD, .int 0])), (astep, .inr (1, [.int 0, .ref eD, .int 0])), (atold, .inl (kI, 60, .inl zTold)), (ns, .inl (kL, 1024, .inr (.inl zSec))), (nf, .inl (kL, 1024, .inr (.inl zFir))), (nm, .inl (kI, 12, .inl (fun _ => 0))), (nl, .inl (kI, 12, .inl (fun _ => 0))), (n1, .inl (kI, 12, .inl (fun _ => 0))), (n2, .inl (kI, 12, .inl (fun _ => 0))), (apsl, .inl (kL, 512, .inr (.inl (fun _ => 0)))), (azsl, .inl (kL, 0, .inr (.inl (fun _ => 0)))), (ou, .inl (kL, 1, .inr (.inl fo))), (mm, .inr (21, [.int 1, .ref ms, .ref mt, .ref mh, .ref me]))] H := hP
  have hD : va_D A [(achoo, .inr (3, [.ref aroom, .ref ameth, .ref acand, .ref ahint, .int 0, .int (-1), .int 0, .int 0, .null])), (aroom, .inr (9, [.ref asort, .ref anod, .ref atold, .int 3, .ref aheld, .int 0, .ref apair, .ref astep, .int 0, .int 0, .int (-1), .int 0, .int 0, .ref asize])), (anod, .inr (7, [.ref nm, .ref nl, .ref n1, .ref n2, .ref nf, .ref ns, .ref nh, .ref nk, .ref np, .int 16, .int 0, .int 16, .int 0, .int 0])), (apair, .inr (8, [.ref apsl, .int 0, .int 0])), (asize, .inr (10, [.ref azsl, .int 0])), (anote, .inr (5, [.ref af1, .ref af2, .ref af3, .int 0])), (aexpr, .inr (1, [.int 0, .ref eD, .int 0])), (ameth, .inr (1, [.int 0, .ref eD, .int 0])), (astep, .inr (1, [.int 0, .ref eD, .int 0])), (atold, .inl (kI, 60, .inl zTold)), (ns, .inl (kL, 1024, .inr (.inl zSec))), (nf, .inl (kL, 1024, .inr (.inl zFir))), (nm, .inl (kI, 12, .inl (fun _ => 0))), (nl, .inl (kI, 12, .inl (fun _ => 0))), (n1, .inl (kI, 12, .inl (fun _ => 0))), (n2, .inl (kI, 12, .inl (fun _ => 0))), (apsl, .inl (kL, 512, .inr (.inl (fun _ => 0)))), (azsl, .inl (kL, 0, .inr (.inl (fun _ => 0)))), (ou, .inl (kL, 1, .inr (.inl fo))), (mm, .inr (21, [.int 1, .ref ms, .ref mt, .ref mh, .ref me]))] := hD
  have hK : va_K (dC, dI) vwCl [(kI, .int), (kL, .long), (kO, .object "java/lang/Object"), (kT, .object "HornbookModel$Tree"), (kL, .long)] s := by simpa using hK
  have hw_9 : r_8 = 1 := hw_9
  have hw_9 := hw_9.symm
  subst hw_9
  refine lv_iload hx hb dL_law_301 (lv_at hl 1 rfl) ?_
  refine lv_icmp_eq (tgt := 308) hx hb dL_law_303 (by decide) (fun c_10 => ?_) (fun c_10 => ?_)
  rotate_left
  · exact absurd (by decide) c_10
  refine lv_iload hx hb dL_law_308 (lv_at hl 1 rfl) ?_
  refine lv_if_ne (tgt := 325) hx hb dL_law_310 (by decide) (fun c_11 => ?_) (fun c_11 => ?_)
  rotate_left
  · exact absurd c_11 (by decide)
  refine lv_goto (tgt := 2196) hx hb dL_law_325 (by decide) ?_
  exact law_tail l Z hS (lv_sub hl [2, 6] rfl) (Nat.le_of_ble_eq_true rfl) (Nat.le_of_ble_eq_true rfl)

set_option maxHeartbeats 4000000 in
set_option maxRecDepth 100000 in
theorem law_case_2 {p : Program} {e : Env} {s : State} {m : MethodId} {below : List Frame} {meth : Method} {c : Code} (l : Launch) {b : Nat} {xs : Nat → Int32} {A : Nat → Prop} {eD eI : Nat} {ad : Nat → Nat} (Z : zLaw l p s m meth c b xs A eD eI ad) (y1 : Int32) (hy1 : xs (1 : Int32).toNatClampNeg = y1) (y2 : Int32) (hy2 : xs (2 : Int32).toNatClampNeg = y2) (y3 : Int32) (hy3 : xs (3 : Int32).toNatClampNeg = y3) (y4 : Int32) (hy4 : xs (4 : Int32).toNatClampNeg = y4) (y5 : Int32) (hy5 : xs (5 : Int32).toNatClampNeg = y5) (y6 : Int32) (hy6 : xs (6 : Int32).toNatClampNeg = y6) (dC : Nat → ClassId) (dI : Nat → Nat → Nat) (hh : Nat) (aexpr : Nat) (achoo : Nat) (ameth : Nat) (aroom : Nat) (anod : Nat) (asort : Nat) (anote : Nat) (amet : Nat) (atold : Nat) (aheld : Nat) (apair : Nat) (astep : Nat) (asize : Nat) (nm : Nat) (nl : Nat) (n1 : Nat) (n2 : Nat) (nf : Nat) (ns : Nat) (nh : Nat) (nk : Nat) (np : Nat) (apsl : Nat) (azsl : Nat) (acand : Nat) (ahint : Nat) (af1 : Nat) (af2 : Nat) (af3 : Nat) (ou : Nat) (mm : Nat) (ms : Nat) (mt : Nat) (mh : Nat) (me : Nat) (ma : Nat) (t0 : Nat) (t1 : Nat) (t2 : Nat) (i0 : Nat) (i1 : Nat) (i2 : Nat) (kI : ClassId) (kL : ClassId) (kO : ClassId) (kT : ClassId) (mo : Int32) (fo : Nat → Int64) {H : Heap} {locs : List Loc} {ls : Array Slot} (hP : va_P (dC, dI) vwCl [(hh, .inr (13, [.ref aexpr, .ref achoo, .ref ameth, .ref aroom, .ref anod, .ref asort, .ref anote, .ref amet, .int 0, .int 1])), (achoo, .inr (3, [.ref aroom, .ref ameth, .ref acand, .ref ahint, .int 0, .int (-1), .int 0, .int 0, .null])), (aroom, .inr (9, [.ref asort, .ref anod, .ref atold, .int 3, .ref aheld, .int 0, .ref apair, .ref astep, .int 0, .int 0, .int (-1), .int 0, .int 0, .ref asize])), (anod, .inr (7, [.ref nm, .ref nl, .ref n1, .ref n2, .ref nf, .ref ns, .ref nh, .ref nk, .ref np, .int 16, .int 0, .int 16, .int 0, .int 0])), (apair, .inr (8, [.ref apsl, .int 0, .int 0])), (asize, .inr (10, [.ref azsl, .int 0])), (anote, .inr (5, [.ref af1, .ref af2, .ref af3, .int 0])), (aexpr, .inr (1, [.int 0, .ref eD, .int 0])), (ameth, .inr (1, [.int 0, .ref eD, .int 0])), (asort, .inr (1, [.int 0, .ref eD, .int 0])), (astep, .inr (1, [.int 0, .ref eD, .int 0])), (atold, .inl (kI, 60, .inl zTold)), (ns, .inl (kL, 1024, .inr (.inl zSec))), (nf, .inl (kL, 1024, .inr (.inl zFir))), (nm, .inl (kI, 12, .inl (fun _ => 0))), (nl, .inl (kI, 12, .inl (fun _ => 0))), (n1, .inl (kI, 12, .inl (fun _ => 0))), (n2, .inl (kI, 12, .inl (fun _ => 0))), (apsl, .inl (kL, 512, .inr (.inl (fun _ => 0)))), (azsl, .inl (kL, 0, .inr (.inl (fun _ => 0)))), (mm, .inr (21, [.int 0, .ref ms, .ref mt, .ref mh, .ref me])), (ms, .inr (1, [.int 0, .ref eD, .int 0])), (mt, .inr (1, [.int mo, .ref ma, .int 3])), (mh, .inr (1, [.int 0, .ref eD, .int 0])), (me, .inr (1, [.int 0, .ref eD, .int 0])), (ma, .inl (kO, 10, .inr (.inr (.inr (.inr (zfT t0 t1 t2)))))), (t0, .inr (18, [.int (-1), .ref i0])), (t1, .inr (18, [.int (-2), .ref i1])), (t2, .inr (18, [.int (-3), .ref i2])), (i0, .inl (kT, 0, .inr (.inr (.inr (.inr (fun _ => none)))))), (i1, .inl (kT, 0, .inr (.inr (.inr (.inr (fun _ => none)))))), (i2, .inl (kT, 0, .inr (.inr (.inr (.inr (fun _ => none)))))), (ou, .inl (kL, 1, .inr (.inl fo)))] H) (hD : va_D A [(hh, .inr (13, [.ref aexpr, .ref achoo, .ref ameth, .ref aroom, .ref anod, .ref asort, .ref anote, .ref amet, .int 0, .int 1])), (achoo, .inr (3, [.ref aroom, .ref ameth, .ref acand, .ref ahint, .int 0, .int (-1), .int 0, .int 0, .null])), (aroom, .inr (9, [.ref asort, .ref anod, .ref atold, .int 3, .ref aheld, .int 0, .ref apair, .ref astep, .int 0, .int 0, .int (-1), .int 0, .int 0, .ref asize])), (anod, .inr (7, [.ref nm, .ref nl, .ref n1, .ref n2, .ref nf, .ref ns, .ref nh, .ref nk, .ref np, .int 16, .int 0, .int 16, .int 0, .int 0])), (apair, .inr (8, [.ref apsl, .int 0, .int 0])), (asize, .inr (10, [.ref azsl, .int 0])), (anote, .inr (5, [.ref af1, .ref af2, .ref af3, .int 0])), (aexpr, .inr (1, [.int 0, .ref eD, .int 0])), (ameth, .inr (1, [.int 0, .ref eD, .int 0])), (asort, .inr (1, [.int 0, .ref eD, .int 0])), (astep, .inr (1, [.int 0, .ref eD, .int 0])), (atold, .inl (kI, 60, .inl zTold)), (ns, .inl (kL, 1024, .inr (.inl zSec))), (nf, .inl (kL, 1024, .inr (.inl zFir))), (nm, .inl (kI, 12, .inl (fun _ => 0))), (nl, .inl (kI, 12, .inl (fun _ => 0))), (n1, .inl (kI, 12, .inl (fun _ => 0))), (n2, .inl (kI, 12, .inl (fun _ => 0))), (apsl, .inl (kL, 512, .inr (.inl (fun _ => 0)))), (azsl, .inl (kL, 0, .inr (.inl (fun _ => 0)))), (mm, .inr (21, [.int 0, .ref ms, .ref mt, .ref mh, .ref me])), (ms, .inr (1, [.int 0, .ref eD, .int 0])), (mt, .inr (1, [.int mo, .ref ma, .int 3])), (mh, .inr (1, [.int 0, .ref eD, .int 0])), (me, .inr (1, [.int 0, .ref eD, .int 0])), (ma, .inl (kO, 10, .inr (.inr (.inr (.inr (zfT t0 t1 t2)))))), (t0, .inr (18, [.int (-1), .ref i0])), (t1, .inr (18, [.int (-2), .ref i1])), (t2, .inr (18, [.int (-3), .ref i2])), (i0, .inl (kT, 0, .inr (.inr (.inr (.inr (fun _ => none)))))), (i1, .inl (kT, 0, .inr (.inr (.inr (.inr (fun _ => none)))))), (i2, .inl (kT, 0, .inr (.inr (.inr (.inr (fun _ => none)))))), (ou, .inl (kL, 1, .inr (.inl fo)))]) (hK : va_K (dC, dI) vwCl [(kI, .int), (kL, .long), (kO, .object "java/lang/Object"), (kT, .object "HornbookModel$Tree")] s) (hS : va_S A s.heap H locs) (hl : lv_has ls 9 [(4, .int 0), (3, .ref ou), (2, .ref mm), (1, .ref hh), (0, .ref b)]) : W p l e room_1 s m #[Value.ref b] below meth c H locs 74 3613 (lw_Z below #[Value.ref b] s) (F0 m 328 ls []) := by
  obtain ⟨hfl, hx, hb, hr, hml, hown, hts, hX, hbl, hbA, hlocks, hE, hA, hAs, hDc⟩ := id Z
  have in_RJx4a65c : ∀ w ∈ u_ws RJx4a65c TJx4a65c 3, w ∈ lw_tbl := by decide +kernel
  have in_RX11 : ∀ w ∈ u_ws RX11 TX11 10, w ∈ lw_tbl := by decide +kernel
  have in_RX19 : ∀ w ∈ u_ws RX19 TX19 5, w ∈ lw_tbl := by decide +kernel
  refine lv_aload_n hx hb dL_law_328 rfl (lv_at hl 3 rfl) ?_
  refine lv_aload_n hx hb dL_law_329 rfl (lv_at hl 4 rfl) ?_
  refine lv_iload hx hb dL_law_330 (lv_at hl 0 rfl) ?_
  refine lv_iconst (v := 1) hx hb dL_law_332 (by decide) ?_
  refine lv_iadd hx hb dL_law_333 ?_
  refine z_top (v' := .int 1) (congrArg Value.int (by decide)) ?_
  refine va_sld hx hb hX hbl hbA hS (by unfold vp_in; decide) dL_law_334 ?_
  refine z_top (v' := .int y1) (congrArg Value.int hy1) ?_
  refine lv_aload_n hx hb dL_law_335 rfl (lv_at hl 4 rfl) ?_
  refine lv_iload hx hb dL_law_336 (lv_at hl 0 rfl) ?_
  refine lv_iconst (v := 2) hx hb dL_law_338 (by decide) ?_
  refine lv_iadd hx hb dL_law_339 ?_
  refine z_top (v' := .int 2) (congrArg Value.int (by decide)) ?_
  refine va_sld hx hb hX hbl hbA hS (by unfold vp_in; decide) dL_law_340 ?_
  refine z_top (v' := .int y2) (congrArg Value.int hy2) ?_
  refine lv_aload_n hx hb dL_law_341 rfl (lv_at hl 4 rfl) ?_
  refine lv_iload hx hb dL_law_342 (lv_at hl 0 rfl) ?_
  refine lv_iconst (v := 3) hx hb dL_law_344 (by decide) ?_
  refine lv_iadd hx hb dL_law_345 ?_
  refine z_top (v' := .int 3) (congrArg Value.int (by decide)) ?_
  refine va_sld hx hb hX hbl hbA hS (by unfold vp_in; decide) dL_law_346 ?_
  refine z_top (v' := .int y3) (congrArg Value.int hy3) ?_
  refine lv_aload_n hx hb dL_law_347 rfl (lv_at hl 1 rfl) ?_
  refine zx_i (wr := [(achoo, .inr (3, [.ref aroom, .ref ameth, .ref acand, .ref ahint, .int 0, .int (-1), .int 0, .int 0, .null])), (aroom, .inr (9, [.ref asort, .ref anod, .ref atold, .int 3, .ref aheld, .int 0, .ref apair, .ref astep, .int 0, .int 0, .int (-1), .int 0, .int 0, .ref asize])), (anod, .inr (7, [.ref nm, .ref nl, .ref n1, .ref n2, .ref nf, .ref ns, .ref nh, .ref nk, .ref np, .int 16, .int 0, .int 16, .int 0, .int 0])), (apair, .inr (8, [.ref apsl, .int 0, .int 0])), (asize, .inr (10, [.ref azsl, .int 0])), (anote, .inr (5, [.ref af1, .ref af2, .ref af3, .int 0])), (aexpr, .inr (1, [.int 0, .ref eD, .int 0])), (ameth, .inr (1, [.int 0, .ref eD, .int 0])), (astep, .inr (1, [.int 0, .ref eD, .int 0])), (atold, .inl (kI, 60, .inl zTold)), (ns, .inl (kL, 1024, .inr (.inl zSec))), (nf, .inl (kL, 1024, .inr (.inl zFir))), (nm, .inl (kI, 12, .inl (fun _ => 0))), (nl, .inl (kI, 12, .inl (fun _ => 0))), (n1, .inl (kI, 12, .inl (fun _ => 0))), (n2, .inl (kI, 12, .inl (fun _ => 0))), (apsl, .inl (kL, 512, .inr (.inl (fun _ => 0)))), (azsl, .inl (kL, 0, .inr (.inl (fun _ => 0)))), (mm, .inr (21, [.int 0, .ref ms, .ref mt, .ref mh, .ref me])), (ms, .inr (1, [.int 0, .ref eD, .int 0])), (mt, .inr (1, [.int mo, .ref ma, .int 3])), (mh, .inr (1, [.int 0, .ref eD, .int 0])), (me, .inr (1, [.int 0, .ref eD, .int 0])), (ma, .inl (kO, 10, .inr (.inr (.inr (.inr (zfT t0 t1 t2)))))), (t0, .inr (18, [.int (-1), .ref i0])), (t1, .inr (18, [.int (-2), .ref i1])), (t2, .inr (18, [.int (-3), .ref i2])), (i0, .inl (kT, 0, .inr (.inr (.inr (.inr (fun _ => none)))))), (i1, .inl (kT, 0, .inr (.inr (.inr (.inr (fun _ => none)))))), (i2, .inl (kT, 0, .inr (.inr (.inr (.inr (fun _ => none))))))]) (vx_runS (As := [.ref hh, .int y1, .int y2, .int y3, .ref ou]) (rest := []) ⟨hx, hb, hml, hown, hts⟩ (c_L_type l hfl eD eI ad dC dI H.size hh aexpr achoo ameth aroom anod asort anote amet ou kL y1 y2 y3 fo) (va_cwS 5 hts gl_c_L_type rfl rfl rfl (by decide +kernel) ⟨Nat.le_of_ble_eq_true rfl, Nat.le_of_ble_eq_true rfl⟩) (z_preSD (wc := [(hh, .inr (13, [.ref aexpr, .ref achoo, .ref ameth, .ref aroom, .ref anod, .ref asort, .ref anote, .ref amet, .int 0, .int 1])), (asort, .inr (1, [.int 0, .ref eD, .int 0])), (ou, .inl (kL, 1, .inr (.inl fo)))]) hP hD hK hS hA hE [0, 9, 32] [1] rfl (by decide) rfl hDc) rfl rfl hl.1 rfl (lv_room (Nat.le_of_ble_eq_true rfl)) dL_law_348 ⟨Nat.le_of_ble_eq_true rfl, Nat.le_of_ble_eq_true rfl⟩) hP hD hK hS hA [0, 9, 32] [1, 2, 3, 4, 5, 6, 7, 8, 10, 11, 12, 13, 14, 15, 16, 17, 18, 19, 20, 21, 22, 23, 24, 25, 26, 27, 28, 29, 30, 31] rfl rfl (by decide) (by decide) (fun E ce q9 H locs hbad hP hD hS h91 h92 h93 => ?_) (fun r_1 u H locs hw_2 hP hD hK hS => ?_)
  · exact absurd hbad id
  obtain ⟨⟩ := u
  have hP : va_P (dC, dI) vwCl [(achoo, .inr (3, [.ref aroom, .ref ameth, .ref acand, .ref ahint, .int 0, .int (-1), .int 0, .int 0, .null])), (aroom, .inr (9, [.ref asort, .ref anod, .ref atold, .int 3, .ref aheld, .int 0, .ref apair, .ref astep, .int 0, .int 0, .int (-1), .int 0, .int 0, .ref asize])), (anod, .inr (7, [.ref nm, .ref nl, .ref n1, .ref n2, .ref nf, .ref ns, .ref nh, .ref nk, .ref np, .int 16, .int 0, .int 16, .int 0, .int 0])), (apair, .inr (8, [.ref apsl, .int 0, .int 0])), (asize, .inr (10, [.ref azsl, .int 0])), (anote, .inr (5, [.ref af1, .ref af2, .ref af3, .int 0])), (aexpr, .inr (1, [.int 0, .ref eD, .int 0])), (ameth, .inr (1, [.int 0, .ref eD, .int 0])), (astep, .inr (1, [.int 0, .ref eD, .int 0])), (atold, .inl (kI, 60, .inl zTold)), (ns, .inl (kL, 1024, .inr (.inl zSec))), (nf, .inl (kL, 1024, .inr (.inl zFir))), (nm, .inl (kI, 12, .inl (fun _ => 0))), (nl, .inl (kI, 12, .inl (fun _ => 0))), (n1, .inl (kI, 12, .inl (fun _ => 0))), (n2, .inl (kI, 12, .inl (fun _ => 0))), (apsl, .inl (kL, 512, .inr (.inl (fun _ => 0)))), (azsl, .inl (kL, 0, .inr (.inl (fun _ => 0)))), (mm, .inr (21, [.int 0, .ref ms, .ref mt, .ref mh, .ref me])), (ms, .inr (1, [.int 0, .ref eD, .int 0])), (mt, .inr (1, [.int mo, .ref ma, .int 3])), (mh, .inr (1, [.int 0, .ref eD, .int 0])), (me, .inr (1, [.int 0, .ref eD, .int 0])), (ma, .inl (kO, 10, .inr (.inr (.inr (.inr (zfT t0 t1 t2)))))), (t0, .inr (18, [.int (-1), .ref i0])), (t1, .inr (18, [.int (-2), .ref i1])), (t2, .inr (18, [.int (-3), .ref i2])), (i0, .inl (kT, 0, .inr (.inr (.inr (.inr (fun _ => none)))))), (i1, .inl (kT, 0, .inr (.inr (.inr (.inr (fun _ => none)))))), (i2, .inl (kT, 0, .inr (.inr (.inr (.inr (fun _ => none)))))), (ou, .inl (kL, 1, .inr (.inl fo)))] H := hP
  have hD : va_D A [(achoo, .inr (3, [.ref aroom, .ref ameth, .ref acand, .ref ahint, .int 0, .int (-1), .int 0, .int 0, .null])), (aroom, .inr (9, [.ref asort, .ref anod, .ref atold, .int 3, .ref aheld, .int 0, .ref apair, .ref astep, .int 0, .int 0, .int (-1), .int 0, .int 0, .ref asize])), (anod, .inr (7, [.ref nm, .ref nl, .ref n1, .ref n2, .ref nf, .ref ns, .ref nh, .ref nk, .ref np, .int 16, .int 0, .int 16, .int 0, .int 0])), (apair, .inr (8, [.ref apsl, .int 0, .int 0])), (asize, .inr (10, [.ref azsl, .int 0])), (anote, .inr (5, [.ref af1, .ref af2, .ref af3, .int 0])), (aexpr, .inr (1, [.int 0, .ref eD, .int 0])), (ameth, .inr (1, [.int 0, .ref eD, .int 0])), (astep, .inr (1, [.int 0, .ref eD, .int 0])), (atold, .inl (kI, 60, .inl zTold)), (ns, .inl (kL, 1024, .inr (.inl zSec))), (nf, .inl (kL, 1024, .inr (.inl zFir))), (nm, .inl (kI, 12, .inl (fun _ => 0))), (nl, .inl (kI, 12, .inl (fun _ => 0))), (n1, .inl (kI, 12, .inl (fun _ => 0))), (n2, .inl (kI, 12, .inl (fun _ => 0))), (apsl, .inl (kL, 512, .inr (.inl (fun _ => 0)))), (azsl, .inl (kL, 0, .inr (.inl (fun _ => 0)))), (mm, .inr (21, [.int 0, .ref ms, .ref mt, .ref mh, .ref me])), (ms, .inr (1, [.int 0, .ref eD, .int 0])), (mt, .inr (1, [.int mo, .ref ma, .int 3])), (mh, .inr (1, [.int 0, .ref eD, .int 0])), (me, .inr (1, [.int 0, .ref eD, .int 0])), (ma, .inl (kO, 10, .inr (.inr (.inr (.inr (zfT t0 t1 t2)))))), (t0, .inr (18, [.int (-1), .ref i0])), (t1, .inr (18, [.int (-2), .ref i1])), (t2, .inr (18, [.int (-3), .ref i2])), (i0, .inl (kT, 0, .inr (.inr (.inr (.inr (fun _ => none)))))), (i1, .inl (kT, 0, .inr (.inr (.inr (.inr (fun _ => none)))))), (i2, .inl (kT, 0, .inr (.inr (.inr (.inr (fun _ => none)))))), (ou, .inl (kL, 1, .inr (.inl fo)))] := hD
  have hK : va_K (dC, dI) vwCl [(kI, .int), (kL, .long), (kO, .object "java/lang/Object"), (kT, .object "HornbookModel$Tree"), (kL, .long)] s := hK
  have hw_2 : r_1 = 1 := hw_2
  have hw_2 := hw_2.symm
  subst hw_2
  refine lv_istore (lv' := [(5, .int 1), (4, .int 0), (3, .ref ou), (2, .ref mm), (1, .ref hh), (0, .ref b)]) hx hb dL_law_351 hl (by decide) rfl (fun ls hl => ?_)
  refine lv_aload_n hx hb dL_law_353 rfl (lv_at hl 3 rfl) ?_
  refine lv_aload_n hx hb dL_law_354 rfl (lv_at hl 5 rfl) ?_
  refine lv_iload hx hb dL_law_355 (lv_at hl 1 rfl) ?_
  refine lv_iconst (v := 1) hx hb dL_law_357 (by decide) ?_
  refine lv_iadd hx hb dL_law_358 ?_
  refine z_top (v' := .int 1) (congrArg Value.int (by decide)) ?_
  refine va_sld hx hb hX hbl hbA hS (by unfold vp_in; decide) dL_law_359 ?_
  refine z_top (v' := .int y1) (congrArg Value.int hy1) ?_
  refine lv_aload_n hx hb dL_law_360 rfl (lv_at hl 5 rfl) ?_
  refine lv_iload hx hb dL_law_361 (lv_at hl 1 rfl) ?_
  refine lv_iconst (v := 2) hx hb dL_law_363 (by decide) ?_
  refine lv_iadd hx hb dL_law_364 ?_
  refine z_top (v' := .int 2) (congrArg Value.int (by decide)) ?_
  refine va_sld hx hb hX hbl hbA hS (by unfold vp_in; decide) dL_law_365 ?_
  refine z_top (v' := .int y2) (congrArg Value.int hy2) ?_
  refine lv_aload_n hx hb dL_law_366 rfl (lv_at hl 5 rfl) ?_
  refine lv_iload hx hb dL_law_367 (lv_at hl 1 rfl) ?_
  refine lv_iconst (v := 3) hx hb dL_law_369 (by decide) ?_
  refine lv_iadd hx hb dL_law_370 ?_
  refine z_top (v' := .int 3) (congrArg Value.int (by decide)) ?_
  refine va_sld hx hb hX hbl hbA hS (by unfold vp_in; decide) dL_law_371 ?_
  refine z_top (v' := .int y3) (congrArg Value.int hy3) ?_
  refine z_i (wr := [(achoo, .inr (3, [.ref aroom, .ref ameth, .ref acand, .ref ahint, .int 0, .int (-1), .int 0, .int 0, .null])), (aroom, .inr (9, [.ref asort, .ref anod, .ref atold, .int 3, .ref aheld, .int 0, .ref apair, .ref astep, .int 0, .int 0, .int (-1), .int 0, .int 0, .ref asize])), (anod, .inr (7, [.ref nm, .ref nl, .ref n1, .ref n2, .ref nf, .ref ns, .ref nh, .ref nk, .ref np, .int 16, .int 0, .int 16, .int 0, .int 0])), (apair, .inr (8, [.ref apsl, .int 0, .int 0])), (asize, .inr (10, [.ref azsl, .int 0])), (anote, .inr (5, [.ref af1, .ref af2, .ref af3, .int 0])), (aexpr, .inr (1, [.int 0, .ref eD, .int 0])), (ameth, .inr (1, [.int 0, .ref eD, .int 0])), (astep, .inr (1, [.int 0, .ref eD, .int 0])), (atold, .inl (kI, 60, .inl zTold)), (ns, .inl (kL, 1024, .inr (.inl zSec))), (nf, .inl (kL, 1024, .inr (.inl zFir))), (nm, .inl (kI, 12, .inl (fun _ => 0))), (nl, .inl (kI, 12, .inl (fun _ => 0))), (n1, .inl (kI, 12, .inl (fun _ => 0))), (n2, .inl (kI, 12, .inl (fun _ => 0))), (apsl, .inl (kL, 512, .inr (.inl (fun _ => 0)))), (azsl, .inl (kL, 0, .inr (.inl (fun _ => 0)))), (ou, .inl (kL, 1, .inr (.inl fo)))]) (va_runV (As := [.int y1, .int y2, .int y3]) (rest := []) ⟨hx, hb, hml, hown, hts⟩ (c_M_type l eD eI ad dC dI H.size mm ms mt mh me mo ma kO kT t0 t1 t2 i0 i1 i2 0 y1 y2 y3) (cwV 3 hts gl_c_M_type rfl rfl rfl (by decide +kernel) ⟨Nat.le_of_ble_eq_true rfl, Nat.le_of_ble_eq_true rfl⟩) (z_preV (wc := [(mm, .inr (21, [.int 0, .ref ms, .ref mt, .ref mh, .ref me])), (ms, .inr (1, [.int 0, .ref eD, .int 0])), (mt, .inr (1, [.int mo, .ref ma, .int 3])), (mh, .inr (1, [.int 0, .ref eD, .int 0])), (me, .inr (1, [.int 0, .ref eD, .int 0])), (ma, .inl (kO, 10, .inr (.inr (.inr (.inr (zfT t0 t1 t2)))))), (t0, .inr (18, [.int (-1), .ref i0])), (t1, .inr (18, [.int (-2), .ref i1])), (t2, .inr (18, [.int (-3), .ref i2])), (i0, .inl (kT, 0, .inr (.inr (.inr (.inr (fun _ => none)))))), (i1, .inl (kT, 0, .inr (.inr (.inr (.inr (fun _ => none)))))), (i2, .inl (kT, 0, .inr (.inr (.inr (.inr (fun _ => none))))))]) hP hD hK hS hA hE [18, 19, 20, 21, 22, 23, 24, 25, 26, 27, 28, 29] [2, 3] rfl (by decide) rfl (ci := 21) (q0 := 0) rfl rfl) rfl rfl hl.1 rfl (lv_room (Nat.le_of_ble_eq_true rfl)) dL_law_372 ⟨Nat.le_of_ble_eq_true rfl, Nat.le_of_ble_eq_true rfl⟩) hP hD hK hS hA [18, 19, 20, 21, 22, 23, 24, 25, 26, 27, 28, 29] [0, 1, 2, 3, 4, 5, 6, 7, 8, 9, 10, 11, 12, 13, 14, 15, 16, 17, 30] rfl rfl (by decide) (by decide) (fun r_5 u H locs hw_6 hP hD hK hS => ?_)
  obtain ⟨u_3, u_4⟩ := u
  have hP : va_P (dC, dI) vwCl [(achoo, .inr (3, [.ref aroom, .ref ameth, .ref acand, .ref ahint, .int 0, .int (-1), .int 0, .int 0, .null])), (aroom, .inr (9, [.ref asort, .ref anod, .ref atold, .int 3, .ref aheld, .int 0, .ref apair, .ref astep, .int 0, .int 0, .int (-1), .int 0, .int 0, .ref asize])), (anod, .inr (7, [.ref nm, .ref nl, .ref n1, .ref n2, .ref nf, .ref ns, .ref nh, .ref nk, .ref np, .int 16, .int 0, .int 16, .int 0, .int 0])), (apair, .inr (8, [.ref apsl, .int 0, .int 0])), (asize, .inr (10, [.ref azsl, .int 0])), (anote, .inr (5, [.ref af1, .ref af2, .ref af3, .int 0])), (aexpr, .inr (1, [.int 0, .ref eD, .int 0])), (ameth, .inr (1, [.int 0, .ref eD, .int 0])), (astep, .inr (1, [.int 0, .ref eD, .int 0])), (atold, .inl (kI, 60, .inl zTold)), (ns, .inl (kL, 1024, .inr (.inl zSec))), (nf, .inl (kL, 1024, .inr (.inl zFir))), (nm, .inl (kI, 12, .inl (fun _ => 0))), (nl, .inl (kI, 12, .inl (fun _ => 0))), (n1, .inl (kI, 12, .inl (fun _ => 0))), (n2, .inl (kI, 12, .inl (fun _ => 0))), (apsl, .inl (kL, 512, .inr (.inl (fun _ => 0)))), (azsl, .inl (kL, 0, .inr (.inl (fun _ => 0)))), (ou, .inl (kL, 1, .inr (.inl fo))), (mm, .inr (21, [.int u_3, .ref ms, .ref mt, .ref mh, .ref me]))] H := hP
  have hD : va_D A [(achoo, .inr (3, [.ref aroom, .ref ameth, .ref acand, .ref ahint, .int 0, .int (-1), .int 0, .int 0, .null])), (aroom, .inr (9, [.ref asort, .ref anod, .ref atold, .int 3, .ref aheld, .int 0, .ref apair, .ref astep, .int 0, .int 0, .int (-1), .int 0, .int 0, .ref asize])), (anod, .inr (7, [.ref nm, .ref nl, .ref n1, .ref n2, .ref nf, .ref ns, .ref nh, .ref nk, .ref np, .int 16, .int 0, .int 16, .int 0, .int 0])), (apair, .inr (8, [.ref apsl, .int 0, .int 0])), (asize, .inr (10, [.ref azsl, .int 0])), (anote, .inr (5, [.ref af1, .ref af2, .ref af3, .int 0])), (aexpr, .inr (1, [.int 0, .ref eD, .int 0])), (ameth, .inr (1, [.int 0, .ref eD, .int 0])), (astep, .inr (1, [.int 0, .ref eD, .int 0])), (atold, .inl (kI, 60, .inl zTold)), (ns, .inl (kL, 1024, .inr (.inl zSec))), (nf, .inl (kL, 1024, .inr (.inl zFir))), (nm, .inl (kI, 12, .inl (fun _ => 0))), (nl, .inl (kI, 12, .inl (fun _ => 0))), (n1, .inl (kI, 12, .inl (fun _ => 0))), (n2, .inl (kI, 12, .inl (fun _ => 0))), (apsl, .inl (kL, 512, .inr (.inl (fun _ => 0)))), (azsl, .inl (kL, 0, .inr (.inl (fun _ => 0)))), (ou, .inl (kL, 1, .inr (.inl fo))), (mm, .inr (21, [.int u_3, .ref ms, .ref mt, .ref mh, .ref me]))] := hD
  have hK : va_K (dC, dI) vwCl [(kI, .int), (kL, .long), (kO, .object "java/lang/Object"), (kT, .object "HornbookModel$Tree"), (kL, .long)] s := by simpa using hK
  have hw_6 : r_5 = u_4 ∧ u_3 = 1 := hw_6
  obtain ⟨hw_6, hp_7⟩ := hw_6
  have hw_6 := hw_6.symm
  subst hw_6
  refine lv_istore (lv' := [(6, .int u_4), (5, .int 1), (4, .int 0), (3, .ref ou), (2, .ref mm), (1, .ref hh), (0, .ref b)]) hx hb dL_law_375 hl (by decide) rfl (fun ls hl => ?_)
  subst hp_7
  refine lv_aload_n hx hb dL_law_377 rfl (lv_at hl 4 rfl) ?_
  refine z_i (wr := [(achoo, .inr (3, [.ref aroom, .ref ameth, .ref acand, .ref ahint, .int 0, .int (-1), .int 0, .int 0, .null])), (aroom, .inr (9, [.ref asort, .ref anod, .ref atold, .int 3, .ref aheld, .int 0, .ref apair, .ref astep, .int 0, .int 0, .int (-1), .int 0, .int 0, .ref asize])), (anod, .inr (7, [.ref nm, .ref nl, .ref n1, .ref n2, .ref nf, .ref ns, .ref nh, .ref nk, .ref np, .int 16, .int 0, .int 16, .int 0, .int 0])), (apair, .inr (8, [.ref apsl, .int 0, .int 0])), (asize, .inr (10, [.ref azsl, .int 0])), (anote, .inr (5, [.ref af1, .ref af2, .ref af3, .int 0])), (aexpr, .inr (1, [.int 0, .ref eD, .int 0])), (ameth, .inr (1, [.int 0, .ref eD, .int 0])), (astep, .inr (1, [.int 0, .ref eD, .int 0])), (atold, .inl (kI, 60, .inl zTold)), (ns, .inl (kL, 1024, .inr (.inl zSec))), (nf, .inl (kL, 1024, .inr (.inl zFir))), (nm, .inl (kI, 12, .inl (fun _ => 0))), (nl, .inl (kI, 12, .inl (fun _ => 0))), (n1, .inl (kI, 12, .inl (fun _ => 0))), (n2, .inl (kI, 12, .inl (fun _ => 0))), (apsl, .inl (kL, 512, .inr (.inl (fun _ => 0)))), (azsl, .inl (kL, 0, .inr (.inl (fun _ => 0)))), (ou, .inl (kL, 1, .inr (.inl fo)))]) (va_runV (As := []) (rest := []) ⟨hx, hb, hml, hown, hts⟩ (c_M_thrown l eD eI ad dC dI H.size mm ((.ref ms)) ((.ref mt)) ((.ref mh)) ((.ref me)) 1) (cwV 0 hts gl_c_M_thrown rfl rfl rfl (by decide +kernel) ⟨Nat.le_of_ble_eq_true rfl, Nat.le_of_ble_eq_true rfl⟩) (z_preV (wc := [(mm, .inr (21, [.int 1, .ref ms, .ref mt, .ref mh, .ref me]))]) hP hD hK hS hA hE [19] [] rfl (by decide) rfl (ci := 21) (q0 := 0) rfl rfl) rfl rfl hl.1 rfl (lv_room (Nat.le_of_ble_eq_true rfl)) dL_law_378 ⟨Nat.le_of_ble_eq_true rfl, Nat.le_of_ble_eq_true rfl⟩) hP hD hK hS hA [19] [0, 1, 2, 3, 4, 5, 6, 7, 8, 9, 10, 11, 12, 13, 14, 15, 16, 17, 18] rfl rfl (by decide) (by decide) (fun r_8 u H locs hw_9 hP hD hK hS => ?_)
  obtain ⟨⟩ := u
  have hP : va_P (dC, dI) vwCl [(achoo, .inr (3, [.ref aroom, .ref ameth, .ref acand, .ref ahint, .int 0, .int (-1), .int 0, .int 0, .null])), (aroom, .inr (9, [.ref asort, .ref anod, .ref atold, .int 3, .ref aheld, .int 0, .ref apair, .ref astep, .int 0, .int 0, .int (-1), .int 0, .int 0, .ref asize])), (anod, .inr (7, [.ref nm, .ref nl, .ref n1, .ref n2, .ref nf, .ref ns, .ref nh, .ref nk, .ref np, .int 16, .int 0, .int 16, .int 0, .int 0])), (apair, .inr (8, [.ref apsl, .int 0, .int 0])), (asize, .inr (10, [.ref azsl, .int 0])), (anote, .inr (5, [.ref af1, .ref af2, .ref af3, .int 0])), (aexpr, .inr (1, [.int 0, .ref eD, .int 0])), (ameth, .inr (1, [.int 0, .ref eD, .int 0])), (astep, .inr (1, [.int 0, .ref eD, .int 0])), (atold, .inl (kI, 60, .inl zTold)), (ns, .inl (kL, 1024, .inr (.inl zSec))), (nf, .inl (kL, 1024, .inr (.inl zFir))), (nm, .inl (kI, 12, .inl (fun _ => 0))), (nl, .inl (kI, 12, .inl (fun _ => 0))), (n1, .inl (kI, 12, .inl (fun _ => 0))), (n2, .inl (kI, 12, .inl (fun _ => 0))), (apsl, .inl (kL, 512, .inr (.inl (fun _ => 0)))), (azsl, .inl (kL, 0, .inr (.inl (fun _ => 0)))), (ou, .inl (kL, 1, .inr (.inl fo))), (mm, .inr (21, [.int 1, .ref ms, .ref mt, .ref mh, .ref me]))] H := hP
  have hD : va_D A [(achoo, .inr (3, [.ref aroom, .ref ameth, .ref acand, .ref ahint, .int 0, .int (-1), .int 0, .int 0, .null])), (aroom, .inr (9, [.ref asort, .ref anod, .ref atold, .int 3, .ref aheld, .int 0, .ref apair, .ref astep, .int 0, .int 0, .int (-1), .int 0, .int 0, .ref asize])), (anod, .inr (7, [.ref nm, .ref nl, .ref n1, .ref n2, .ref nf, .ref ns, .ref nh, .ref nk, .ref np, .int 16, .int 0, .int 16, .int 0, .int 0])), (apair, .inr (8, [.ref apsl, .int 0, .int 0])), (asize, .inr (10, [.ref azsl, .int 0])), (anote, .inr (5, [.ref af1, .ref af2, .ref af3, .int 0])), (aexpr, .inr (1, [.int 0, .ref eD, .int 0])), (ameth, .inr (1, [.int 0, .ref eD, .int 0])), (astep, .inr (1, [.int 0, .ref eD, .int 0])), (atold, .inl (kI, 60, .inl zTold)), (ns, .inl (kL, 1024, .inr (.inl zSec))), (nf, .inl (kL, 1024, .inr (.inl zFir))), (nm, .inl (kI, 12, .inl (fun _ => 0))), (nl, .inl (kI, 12, .inl (fun _ => 0))), (n1, .inl (kI, 12, .inl (fun _ => 0))), (n2, .inl (kI, 12, .inl (fun _ => 0))), (apsl, .inl (kL, 512, .inr (.inl (fun _ => 0)))), (azsl, .inl (kL, 0, .inr (.inl (fun _ => 0)))), (ou, .inl (kL, 1, .inr (.inl fo))), (mm, .inr (21, [.int 1, .ref ms, .ref mt, .ref mh, .ref me]))] := hD
  have hK : va_K (dC, dI) vwCl [(kI, .int), (kL, .long), (kO, .object "java/lang/Object"), (kT, .object "HornbookModel$Tree"), (kL, .long)] s := by simpa using hK
  have hw_9 : r_8 = 1 := hw_9
  have hw_9 := hw_9.symm
  subst hw_9
  refine lv_iload hx hb dL_law_381 (lv_at hl 1 rfl) ?_
  refine lv_icmp_eq (tgt := 388) hx hb dL_law_383 (by decide) (fun c_10 => ?_) (fun c_10 => ?_)
  rotate_left
  · exact absurd (by decide) c_10
  refine lv_iload hx hb dL_law_388 (lv_at hl 1 rfl) ?_
  refine lv_if_ne (tgt := 405) hx hb dL_law_390 (by decide) (fun c_11 => ?_) (fun c_11 => ?_)
  rotate_left
  · exact absurd c_11 (by decide)
  refine lv_goto (tgt := 2196) hx hb dL_law_405 (by decide) ?_
  exact law_tail l Z hS (lv_sub hl [2, 6] rfl) (Nat.le_of_ble_eq_true rfl) (Nat.le_of_ble_eq_true rfl)

set_option maxHeartbeats 4000000 in
set_option maxRecDepth 100000 in
theorem law_case_3 {p : Program} {e : Env} {s : State} {m : MethodId} {below : List Frame} {meth : Method} {c : Code} (l : Launch) {b : Nat} {xs : Nat → Int32} {A : Nat → Prop} {eD eI : Nat} {ad : Nat → Nat} (Z : zLaw l p s m meth c b xs A eD eI ad) (y1 : Int32) (hy1 : xs (1 : Int32).toNatClampNeg = y1) (y2 : Int32) (hy2 : xs (2 : Int32).toNatClampNeg = y2) (y3 : Int32) (hy3 : xs (3 : Int32).toNatClampNeg = y3) (y4 : Int32) (hy4 : xs (4 : Int32).toNatClampNeg = y4) (y5 : Int32) (hy5 : xs (5 : Int32).toNatClampNeg = y5) (y6 : Int32) (hy6 : xs (6 : Int32).toNatClampNeg = y6) (dC : Nat → ClassId) (dI : Nat → Nat → Nat) (hh : Nat) (aexpr : Nat) (achoo : Nat) (ameth : Nat) (aroom : Nat) (anod : Nat) (asort : Nat) (anote : Nat) (amet : Nat) (atold : Nat) (aheld : Nat) (apair : Nat) (astep : Nat) (asize : Nat) (nm : Nat) (nl : Nat) (n1 : Nat) (n2 : Nat) (nf : Nat) (ns : Nat) (nh : Nat) (nk : Nat) (np : Nat) (apsl : Nat) (azsl : Nat) (acand : Nat) (ahint : Nat) (af1 : Nat) (af2 : Nat) (af3 : Nat) (ou : Nat) (mm : Nat) (ms : Nat) (mt : Nat) (mh : Nat) (me : Nat) (ma : Nat) (t0 : Nat) (t1 : Nat) (t2 : Nat) (i0 : Nat) (i1 : Nat) (i2 : Nat) (kI : ClassId) (kL : ClassId) (kO : ClassId) (kT : ClassId) (mo : Int32) (fo : Nat → Int64) {H : Heap} {locs : List Loc} {ls : Array Slot} (hP : va_P (dC, dI) vwCl [(hh, .inr (13, [.ref aexpr, .ref achoo, .ref ameth, .ref aroom, .ref anod, .ref asort, .ref anote, .ref amet, .int 0, .int 1])), (achoo, .inr (3, [.ref aroom, .ref ameth, .ref acand, .ref ahint, .int 0, .int (-1), .int 0, .int 0, .null])), (aroom, .inr (9, [.ref asort, .ref anod, .ref atold, .int 3, .ref aheld, .int 0, .ref apair, .ref astep, .int 0, .int 0, .int (-1), .int 0, .int 0, .ref asize])), (anod, .inr (7, [.ref nm, .ref nl, .ref n1, .ref n2, .ref nf, .ref ns, .ref nh, .ref nk, .ref np, .int 16, .int 0, .int 16, .int 0, .int 0])), (apair, .inr (8, [.ref apsl, .int 0, .int 0])), (asize, .inr (10, [.ref azsl, .int 0])), (anote, .inr (5, [.ref af1, .ref af2, .ref af3, .int 0])), (aexpr, .inr (1, [.int 0, .ref eD, .int 0])), (ameth, .inr (1, [.int 0, .ref eD, .int 0])), (asort, .inr (1, [.int 0, .ref eD, .int 0])), (astep, .inr (1, [.int 0, .ref eD, .int 0])), (atold, .inl (kI, 60, .inl zTold)), (ns, .inl (kL, 1024, .inr (.inl zSec))), (nf, .inl (kL, 1024, .inr (.inl zFir))), (nm, .inl (kI, 12, .inl (fun _ => 0))), (nl, .inl (kI, 12, .inl (fun _ => 0))), (n1, .inl (kI, 12, .inl (fun _ => 0))), (n2, .inl (kI, 12, .inl (fun _ => 0))), (apsl, .inl (kL, 512, .inr (.inl (fun _ => 0)))), (azsl, .inl (kL, 0, .inr (.inl (fun _ => 0)))), (mm, .inr (21, [.int 0, .ref ms, .ref mt, .ref mh, .ref me])), (ms, .inr (1, [.int 0, .ref eD, .int 0])), (mt, .inr (1, [.int mo, .ref ma, .int 3])), (mh, .inr (1, [.int 0, .ref eD, .int 0])), (me, .inr (1, [.int 0, .ref eD, .int 0])), (ma, .inl (kO, 10, .inr (.inr (.inr (.inr (zfT t0 t1 t2)))))), (t0, .inr (18, [.int (-1), .ref i0])), (t1, .inr (18, [.int (-2), .ref i1])), (t2, .inr (18, [.int (-3), .ref i2])), (i0, .inl (kT, 0, .inr (.inr (.inr (.inr (fun _ => none)))))), (i1, .inl (kT, 0, .inr (.inr (.inr (.inr (fun _ => none)))))), (i2, .inl (kT, 0, .inr (.inr (.inr (.inr (fun _ => none)))))), (ou, .inl (kL, 1, .inr (.inl fo)))] H) (hD : va_D A [(hh, .inr (13, [.ref aexpr, .ref achoo, .ref ameth, .ref aroom, .ref anod, .ref asort, .ref anote, .ref amet, .int 0, .int 1])), (achoo, .inr (3, [.ref aroom, .ref ameth, .ref acand, .ref ahint, .int 0, .int (-1), .int 0, .int 0, .null])), (aroom, .inr (9, [.ref asort, .ref anod, .ref atold, .int 3, .ref aheld, .int 0, .ref apair, .ref astep, .int 0, .int 0, .int (-1), .int 0, .int 0, .ref asize])), (anod, .inr (7, [.ref nm, .ref nl, .ref n1, .ref n2, .ref nf, .ref ns, .ref nh, .ref nk, .ref np, .int 16, .int 0, .int 16, .int 0, .int 0])), (apair, .inr (8, [.ref apsl, .int 0, .int 0])), (asize, .inr (10, [.ref azsl, .int 0])), (anote, .inr (5, [.ref af1, .ref af2, .ref af3, .int 0])), (aexpr, .inr (1, [.int 0, .ref eD, .int 0])), (ameth, .inr (1, [.int 0, .ref eD, .int 0])), (asort, .inr (1, [.int 0, .ref eD, .int 0])), (astep, .inr (1, [.int 0, .ref eD, .int 0])), (atold, .inl (kI, 60, .inl zTold)), (ns, .inl (kL, 1024, .inr (.inl zSec))), (nf, .inl (kL, 1024, .inr (.inl zFir))), (nm, .inl (kI, 12, .inl (fun _ => 0))), (nl, .inl (kI, 12, .inl (fun _ => 0))), (n1, .inl (kI, 12, .inl (fun _ => 0))), (n2, .inl (kI, 12, .inl (fun _ => 0))), (apsl, .inl (kL, 512, .inr (.inl (fun _ => 0)))), (azsl, .inl (kL, 0, .inr (.inl (fun _ => 0)))), (mm, .inr (21, [.int 0, .ref ms, .ref mt, .ref mh, .ref me])), (ms, .inr (1, [.int 0, .ref eD, .int 0])), (mt, .inr (1, [.int mo, .ref ma, .int 3])), (mh, .inr (1, [.int 0, .ref eD, .int 0])), (me, .inr (1, [.int 0, .ref eD, .int 0])), (ma, .inl (kO, 10, .inr (.inr (.inr (.inr (zfT t0 t1 t2)))))), (t0, .inr (18, [.int (-1), .ref i0])), (t1, .inr (18, [.int (-2), .ref i1])), (t2, .inr (18, [.int (-3), .ref i2])), (i0, .inl (kT, 0, .inr (.inr (.inr (.inr (fun _ => none)))))), (i1, .inl (kT, 0, .inr (.inr (.inr (.inr (fun _ => none)))))), (i2, .inl (kT, 0, .inr (.inr (.inr (.inr (fun _ => none)))))), (ou, .inl (kL, 1, .inr (.inl fo)))]) (hK : va_K (dC, dI) vwCl [(kI, .int), (kL, .long), (kO, .object "java/lang/Object"), (kT, .object "HornbookModel$Tree")] s) (hS : va_S A s.heap H locs) (hl : lv_has ls 9 [(4, .int 0), (3, .ref ou), (2, .ref mm), (1, .ref hh), (0, .ref b)]) : W p l e room_1 s m #[Value.ref b] below meth c H locs 74 3613 (lw_Z below #[Value.ref b] s) (F0 m 408 ls []) := by
  obtain ⟨hfl, hx, hb, hr, hml, hown, hts, hX, hbl, hbA, hlocks, hE, hA, hAs, hDc⟩ := id Z
  have in_RJx4a65c : ∀ w ∈ u_ws RJx4a65c TJx4a65c 3, w ∈ lw_tbl := by decide +kernel
  have in_RX11 : ∀ w ∈ u_ws RX11 TX11 10, w ∈ lw_tbl := by decide +kernel
  have in_RX16 : ∀ w ∈ u_ws RX16 TX16 2, w ∈ lw_tbl := by decide +kernel
  have in_RX19 : ∀ w ∈ u_ws RX19 TX19 5, w ∈ lw_tbl := by decide +kernel
  have in_RX7 : ∀ w ∈ u_ws RX7 TX7 14, w ∈ lw_tbl := by decide +kernel
  refine lv_aload_n hx hb dL_law_408 rfl (lv_at hl 3 rfl) ?_
  refine lv_aload_n hx hb dL_law_409 rfl (lv_at hl 4 rfl) ?_
  refine lv_iload hx hb dL_law_410 (lv_at hl 0 rfl) ?_
  refine lv_iconst (v := 1) hx hb dL_law_412 (by decide) ?_
  refine lv_iadd hx hb dL_law_413 ?_
  refine z_top (v' := .int 1) (congrArg Value.int (by decide)) ?_
  refine va_sld hx hb hX hbl hbA hS (by unfold vp_in; decide) dL_law_414 ?_
  refine z_top (v' := .int y1) (congrArg Value.int hy1) ?_
  refine lv_aload_n hx hb dL_law_415 rfl (lv_at hl 1 rfl) ?_
  refine zx_i (wr := [(achoo, .inr (3, [.ref aroom, .ref ameth, .ref acand, .ref ahint, .int 0, .int (-1), .int 0, .int 0, .null])), (anod, .inr (7, [.ref nm, .ref nl, .ref n1, .ref n2, .ref nf, .ref ns, .ref nh, .ref nk, .ref np, .int 16, .int 0, .int 16, .int 0, .int 0])), (apair, .inr (8, [.ref apsl, .int 0, .int 0])), (asize, .inr (10, [.ref azsl, .int 0])), (anote, .inr (5, [.ref af1, .ref af2, .ref af3, .int 0])), (aexpr, .inr (1, [.int 0, .ref eD, .int 0])), (ameth, .inr (1, [.int 0, .ref eD, .int 0])), (asort, .inr (1, [.int 0, .ref eD, .int 0])), (astep, .inr (1, [.int 0, .ref eD, .int 0])), (ns, .inl (kL, 1024, .inr (.inl zSec))), (nf, .inl (kL, 1024, .inr (.inl zFir))), (nm, .inl (kI, 12, .inl (fun _ => 0))), (nl, .inl (kI, 12, .inl (fun _ => 0))), (n1, .inl (kI, 12, .inl (fun _ => 0))), (n2, .inl (kI, 12, .inl (fun _ => 0))), (apsl, .inl (kL, 512, .inr (.inl (fun _ => 0)))), (azsl, .inl (kL, 0, .inr (.inl (fun _ => 0)))), (mm, .inr (21, [.int 0, .ref ms, .ref mt, .ref mh, .ref me])), (ms, .inr (1, [.int 0, .ref eD, .int 0])), (mt, .inr (1, [.int mo, .ref ma, .int 3])), (mh, .inr (1, [.int 0, .ref eD, .int 0])), (me, .inr (1, [.int 0, .ref eD, .int 0])), (ma, .inl (kO, 10, .inr (.inr (.inr (.inr (zfT t0 t1 t2)))))), (t0, .inr (18, [.int (-1), .ref i0])), (t1, .inr (18, [.int (-2), .ref i1])), (t2, .inr (18, [.int (-3), .ref i2])), (i0, .inl (kT, 0, .inr (.inr (.inr (.inr (fun _ => none)))))), (i1, .inl (kT, 0, .inr (.inr (.inr (.inr (fun _ => none)))))), (i2, .inl (kT, 0, .inr (.inr (.inr (.inr (fun _ => none))))))]) (vx_runS (As := [.ref hh, .int y1, .ref ou]) (rest := []) ⟨hx, hb, hml, hown, hts⟩ (c_L_parameter l hfl eD eI ad dC dI H.size hh aexpr achoo ameth aroom anod asort anote amet atold aheld apair astep asize ou kI kL y1 fo) (va_cwS 3 hts gl_c_L_parameter rfl rfl rfl (by decide +kernel) ⟨Nat.le_of_ble_eq_true rfl, Nat.le_of_ble_eq_true rfl⟩) (z_preSD (wc := [(hh, .inr (13, [.ref aexpr, .ref achoo, .ref ameth, .ref aroom, .ref anod, .ref asort, .ref anote, .ref amet, .int 0, .int 1])), (aroom, .inr (9, [.ref asort, .ref anod, .ref atold, .int 3, .ref aheld, .int 0, .ref apair, .ref astep, .int 0, .int 0, .int (-1), .int 0, .int 0, .ref asize])), (atold, .inl (kI, 60, .inl zTold)), (ou, .inl (kL, 1, .inr (.inl fo)))]) hP hD hK hS hA hE [0, 2, 11, 32] [0, 1] rfl (by decide) rfl hDc) rfl rfl hl.1 rfl (lv_room (Nat.le_of_ble_eq_true rfl)) dL_law_416 ⟨Nat.le_of_ble_eq_true rfl, Nat.le_of_ble_eq_true rfl⟩) hP hD hK hS hA [0, 2, 11, 32] [1, 3, 4, 5, 6, 7, 8, 9, 10, 12, 13, 14, 15, 16, 17, 18, 19, 20, 21, 22, 23, 24, 25, 26, 27, 28, 29, 30, 31] rfl rfl (by decide) (by decide) (fun E ce q9 H locs hbad hP hD hS h91 h92 h93 => ?_) (fun r_3 u H locs hw_4 hP hD hK hS => ?_)
  · exact absurd hbad id
  obtain ⟨u_1, u_2⟩ := u
  have hP : va_P (dC, dI) vwCl [(achoo, .inr (3, [.ref aroom, .ref ameth, .ref acand, .ref ahint, .int 0, .int (-1), .int 0, .int 0, .null])), (anod, .inr (7, [.ref nm, .ref nl, .ref n1, .ref n2, .ref nf, .ref ns, .ref nh, .ref nk, .ref np, .int 16, .int 0, .int 16, .int 0, .int 0])), (apair, .inr (8, [.ref apsl, .int 0, .int 0])), (asize, .inr (10, [.ref azsl, .int 0])), (anote, .inr (5, [.ref af1, .ref af2, .ref af3, .int 0])), (aexpr, .inr (1, [.int 0, .ref eD, .int 0])), (ameth, .inr (1, [.int 0, .ref eD, .int 0])), (asort, .inr (1, [.int 0, .ref eD, .int 0])), (astep, .inr (1, [.int 0, .ref eD, .int 0])), (ns, .inl (kL, 1024, .inr (.inl zSec))), (nf, .inl (kL, 1024, .inr (.inl zFir))), (nm, .inl (kI, 12, .inl (fun _ => 0))), (nl, .inl (kI, 12, .inl (fun _ => 0))), (n1, .inl (kI, 12, .inl (fun _ => 0))), (n2, .inl (kI, 12, .inl (fun _ => 0))), (apsl, .inl (kL, 512, .inr (.inl (fun _ => 0)))), (azsl, .inl (kL, 0, .inr (.inl (fun _ => 0)))), (mm, .inr (21, [.int 0, .ref ms, .ref mt, .ref mh, .ref me])), (ms, .inr (1, [.int 0, .ref eD, .int 0])), (mt, .inr (1, [.int mo, .ref ma, .int 3])), (mh, .inr (1, [.int 0, .ref eD, .int 0])), (me, .inr (1, [.int 0, .ref eD, .int 0])), (ma, .inl (kO, 10, .inr (.inr (.inr (.inr (zfT t0 t1 t2)))))), (t0, .inr (18, [.int (-1), .ref i0])), (t1, .inr (18, [.int (-2), .ref i1])), (t2, .inr (18, [.int (-3), .ref i2])), (i0, .inl (kT, 0, .inr (.inr (.inr (.inr (fun _ => none)))))), (i1, .inl (kT, 0, .inr (.inr (.inr (.inr (fun _ => none)))))), (i2, .inl (kT, 0, .inr (.inr (.inr (.inr (fun _ => none)))))), (ou, .inl (kL, 1, .inr (.inl u_2)))] H := hP
  have hD : va_D A [(achoo, .inr (3, [.ref aroom, .ref ameth, .ref acand, .ref ahint, .int 0, .int (-1), .int 0, .int 0, .null])), (anod, .inr (7, [.ref nm, .ref nl, .ref n1, .ref n2, .ref nf, .ref ns, .ref nh, .ref nk, .ref np, .int 16, .int 0, .int 16, .int 0, .int 0])), (apair, .inr (8, [.ref apsl, .int 0, .int 0])), (asize, .inr (10, [.ref azsl, .int 0])), (anote, .inr (5, [.ref af1, .ref af2, .ref af3, .int 0])), (aexpr, .inr (1, [.int 0, .ref eD, .int 0])), (ameth, .inr (1, [.int 0, .ref eD, .int 0])), (asort, .inr (1, [.int 0, .ref eD, .int 0])), (astep, .inr (1, [.int 0, .ref eD, .int 0])), (ns, .inl (kL, 1024, .inr (.inl zSec))), (nf, .inl (kL, 1024, .inr (.inl zFir))), (nm, .inl (kI, 12, .inl (fun _ => 0))), (nl, .inl (kI, 12, .inl (fun _ => 0))), (n1, .inl (kI, 12, .inl (fun _ => 0))), (n2, .inl (kI, 12, .inl (fun _ => 0))), (apsl, .inl (kL, 512, .inr (.inl (fun _ => 0)))), (azsl, .inl (kL, 0, .inr (.inl (fun _ => 0)))), (mm, .inr (21, [.int 0, .ref ms, .ref mt, .ref mh, .ref me])), (ms, .inr (1, [.int 0, .ref eD, .int 0])), (mt, .inr (1, [.int mo, .ref ma, .int 3])), (mh, .inr (1, [.int 0, .ref eD, .int 0])), (me, .inr (1, [.int 0, .ref eD, .int 0])), (ma, .inl (kO, 10, .inr (.inr (.inr (.inr (zfT t0 t1 t2)))))), (t0, .inr (18, [.int (-1), .ref i0])), (t1, .inr (18, [.int (-2), .ref i1])), (t2, .inr (18, [.int (-3), .ref i2])), (i0, .inl (kT, 0, .inr (.inr (.inr (.inr (fun _ => none)))))), (i1, .inl (kT, 0, .inr (.inr (.inr (.inr (fun _ => none)))))), (i2, .inl (kT, 0, .inr (.inr (.inr (.inr (fun _ => none)))))), (ou, .inl (kL, 1, .inr (.inl u_2)))] := hD
  have hK : va_K (dC, dI) vwCl [(kI, .int), (kL, .long), (kO, .object "java/lang/Object"), (kT, .object "HornbookModel$Tree"), (kL, .long)] s := hK
  have hw_4 : r_3 = u_1 ∧ u_1 = (if y1 < 0 ∨ 1 < y1 then 1 else 0) ∧ (u_1 = 0 → u_2 (0 : Int32).toNatClampNeg = (3 : Int32).toInt64) := hw_4
  obtain ⟨hw_4, hp_5, hp_6⟩ := hw_4
  have hw_4 := hw_4.symm
  subst hw_4
  refine lv_istore (lv' := [(5, .int u_1), (4, .int 0), (3, .ref ou), (2, .ref mm), (1, .ref hh), (0, .ref b)]) hx hb dL_law_419 hl (by decide) rfl (fun ls hl => ?_)
  refine lv_aload_n hx hb dL_law_421 rfl (lv_at hl 3 rfl) ?_
  refine lv_aload_n hx hb dL_law_422 rfl (lv_at hl 5 rfl) ?_
  refine lv_iload hx hb dL_law_423 (lv_at hl 1 rfl) ?_
  refine lv_iconst (v := 1) hx hb dL_law_425 (by decide) ?_
  refine lv_iadd hx hb dL_law_426 ?_
  refine z_top (v' := .int 1) (congrArg Value.int (by decide)) ?_
  refine va_sld hx hb hX hbl hbA hS (by unfold vp_in; decide) dL_law_427 ?_
  refine z_top (v' := .int y1) (congrArg Value.int hy1) ?_
  refine z_i (wr := [(achoo, .inr (3, [.ref aroom, .ref ameth, .ref acand, .ref ahint, .int 0, .int (-1), .int 0, .int 0, .null])), (anod, .inr (7, [.ref nm, .ref nl, .ref n1, .ref n2, .ref nf, .ref ns, .ref nh, .ref nk, .ref np, .int 16, .int 0, .int 16, .int 0, .int 0])), (apair, .inr (8, [.ref apsl, .int 0, .int 0])), (asize, .inr (10, [.ref azsl, .int 0])), (anote, .inr (5, [.ref af1, .ref af2, .ref af3, .int 0])), (aexpr, .inr (1, [.int 0, .ref eD, .int 0])), (ameth, .inr (1, [.int 0, .ref eD, .int 0])), (asort, .inr (1, [.int 0, .ref eD, .int 0])), (astep, .inr (1, [.int 0, .ref eD, .int 0])), (ns, .inl (kL, 1024, .inr (.inl zSec))), (nf, .inl (kL, 1024, .inr (.inl zFir))), (nm, .inl (kI, 12, .inl (fun _ => 0))), (nl, .inl (kI, 12, .inl (fun _ => 0))), (n1, .inl (kI, 12, .inl (fun _ => 0))), (n2, .inl (kI, 12, .inl (fun _ => 0))), (apsl, .inl (kL, 512, .inr (.inl (fun _ => 0)))), (azsl, .inl (kL, 0, .inr (.inl (fun _ => 0)))), (ou, .inl (kL, 1, .inr (.inl u_2)))]) (va_runV (As := [.int y1]) (rest := []) ⟨hx, hb, hml, hown, hts⟩ (c_M_parameter l eD eI ad dC dI H.size mm ms mt mh me mo ma kO kT t0 t1 t2 i0 i1 i2 0 y1) (cwV 1 hts gl_c_M_parameter rfl rfl rfl (by decide +kernel) ⟨Nat.le_of_ble_eq_true rfl, Nat.le_of_ble_eq_true rfl⟩) (z_preV (wc := [(mm, .inr (21, [.int 0, .ref ms, .ref mt, .ref mh, .ref me])), (ms, .inr (1, [.int 0, .ref eD, .int 0])), (mt, .inr (1, [.int mo, .ref ma, .int 3])), (mh, .inr (1, [.int 0, .ref eD, .int 0])), (me, .inr (1, [.int 0, .ref eD, .int 0])), (ma, .inl (kO, 10, .inr (.inr (.inr (.inr (zfT t0 t1 t2)))))), (t0, .inr (18, [.int (-1), .ref i0])), (t1, .inr (18, [.int (-2), .ref i1])), (t2, .inr (18, [.int (-3), .ref i2])), (i0, .inl (kT, 0, .inr (.inr (.inr (.inr (fun _ => none)))))), (i1, .inl (kT, 0, .inr (.inr (.inr (.inr (fun _ => none)))))), (i2, .inl (kT, 0, .inr (.inr (.inr (.inr (fun _ => none))))))]) hP hD hK hS hA hE [17, 18, 19, 20, 21, 22, 23, 24, 25, 26, 27, 28] [2, 3] rfl (by decide) rfl (ci := 21) (q0 := 0) rfl rfl) rfl rfl hl.1 rfl (lv_room (Nat.le_of_ble_eq_true rfl)) dL_law_428 ⟨Nat.le_of_ble_eq_true rfl, Nat.le_of_ble_eq_true rfl⟩) hP hD hK hS hA [17, 18, 19, 20, 21, 22, 23, 24, 25, 26, 27, 28] [0, 1, 2, 3, 4, 5, 6, 7, 8, 9, 10, 11, 12, 13, 14, 15, 16, 29] rfl rfl (by decide) (by decide) (fun r_9 u H locs hw_10 hP hD hK hS => ?_)
  obtain ⟨u_7, u_8⟩ := u
  have hP : va_P (dC, dI) vwCl [(achoo, .inr (3, [.ref aroom, .ref ameth, .ref acand, .ref ahint, .int 0, .int (-1), .int 0, .int 0, .null])), (anod, .inr (7, [.ref nm, .ref nl, .ref n1, .ref n2, .ref nf, .ref ns, .ref nh, .ref nk, .ref np, .int 16, .int 0, .int 16, .int 0, .int 0])), (apair, .inr (8, [.ref apsl, .int 0, .int 0])), (asize, .inr (10, [.ref azsl, .int 0])), (anote, .inr (5, [.ref af1, .ref af2, .ref af3, .int 0])), (aexpr, .inr (1, [.int 0, .ref eD, .int 0])), (ameth, .inr (1, [.int 0, .ref eD, .int 0])), (asort, .inr (1, [.int 0, .ref eD, .int 0])), (astep, .inr (1, [.int 0, .ref eD, .int 0])), (ns, .inl (kL, 1024, .inr (.inl zSec))), (nf, .inl (kL, 1024, .inr (.inl zFir))), (nm, .inl (kI, 12, .inl (fun _ => 0))), (nl, .inl (kI, 12, .inl (fun _ => 0))), (n1, .inl (kI, 12, .inl (fun _ => 0))), (n2, .inl (kI, 12, .inl (fun _ => 0))), (apsl, .inl (kL, 512, .inr (.inl (fun _ => 0)))), (azsl, .inl (kL, 0, .inr (.inl (fun _ => 0)))), (ou, .inl (kL, 1, .inr (.inl u_2))), (mm, .inr (21, [.int u_7, .ref ms, .ref mt, .ref mh, .ref me]))] H := hP
  have hD : va_D A [(achoo, .inr (3, [.ref aroom, .ref ameth, .ref acand, .ref ahint, .int 0, .int (-1), .int 0, .int 0, .null])), (anod, .inr (7, [.ref nm, .ref nl, .ref n1, .ref n2, .ref nf, .ref ns, .ref nh, .ref nk, .ref np, .int 16, .int 0, .int 16, .int 0, .int 0])), (apair, .inr (8, [.ref apsl, .int 0, .int 0])), (asize, .inr (10, [.ref azsl, .int 0])), (anote, .inr (5, [.ref af1, .ref af2, .ref af3, .int 0])), (aexpr, .inr (1, [.int 0, .ref eD, .int 0])), (ameth, .inr (1, [.int 0, .ref eD, .int 0])), (asort, .inr (1, [.int 0, .ref eD, .int 0])), (astep, .inr (1, [.int 0, .ref eD, .int 0])), (ns, .inl (kL, 1024, .inr (.inl zSec))), (nf, .inl (kL, 1024, .inr (.inl zFir))), (nm, .inl (kI, 12, .inl (fun _ => 0))), (nl, .inl (kI, 12, .inl (fun _ => 0))), (n1, .inl (kI, 12, .inl (fun _ => 0))), (n2, .inl (kI, 12, .inl (fun _ => 0))), (apsl, .inl (kL, 512, .inr (.inl (fun _ => 0)))), (azsl, .inl (kL, 0, .inr (.inl (fun _ => 0)))), (ou, .inl (kL, 1, .inr (.inl u_2))), (mm, .inr (21, [.int u_7, .ref ms, .ref mt, .ref mh, .ref me]))] := hD
  have hK : va_K (dC, dI) vwCl [(kI, .int), (kL, .long), (kO, .object "java/lang/Object"), (kT, .object "HornbookModel$Tree"), (kL, .long)] s := by simpa using hK
  have hw_10 : r_9 = u_8 ∧ u_7 = (if y1 < 0 ∨ 1 < y1 then 1 else 0) ∧ (u_7 = 0 → u_8 = 3) := hw_10
  obtain ⟨hw_10, hp_11, hp_12⟩ := hw_10
  have hw_10 := hw_10.symm
  subst hw_10
  refine lv_istore (lv' := [(6, .int u_8), (5, .int u_1), (4, .int 0), (3, .ref ou), (2, .ref mm), (1, .ref hh), (0, .ref b)]) hx hb dL_law_431 hl (by decide) rfl (fun ls hl => ?_)
  have hk9 : u_1 = u_7 := hp_5.trans hp_11.symm
  subst hk9
  refine lv_aload_n hx hb dL_law_433 rfl (lv_at hl 4 rfl) ?_
  refine z_i (wr := [(achoo, .inr (3, [.ref aroom, .ref ameth, .ref acand, .ref ahint, .int 0, .int (-1), .int 0, .int 0, .null])), (anod, .inr (7, [.ref nm, .ref nl, .ref n1, .ref n2, .ref nf, .ref ns, .ref nh, .ref nk, .ref np, .int 16, .int 0, .int 16, .int 0, .int 0])), (apair, .inr (8, [.ref apsl, .int 0, .int 0])), (asize, .inr (10, [.ref azsl, .int 0])), (anote, .inr (5, [.ref af1, .ref af2, .ref af3, .int 0])), (aexpr, .inr (1, [.int 0, .ref eD, .int 0])), (ameth, .inr (1, [.int 0, .ref eD, .int 0])), (asort, .inr (1, [.int 0, .ref eD, .int 0])), (astep, .inr (1, [.int 0, .ref eD, .int 0])), (ns, .inl (kL, 1024, .inr (.inl zSec))), (nf, .inl (kL, 1024, .inr (.inl zFir))), (nm, .inl (kI, 12, .inl (fun _ => 0))), (nl, .inl (kI, 12, .inl (fun _ => 0))), (n1, .inl (kI, 12, .inl (fun _ => 0))), (n2, .inl (kI, 12, .inl (fun _ => 0))), (apsl, .inl (kL, 512, .inr (.inl (fun _ => 0)))), (azsl, .inl (kL, 0, .inr (.inl (fun _ => 0)))), (ou, .inl (kL, 1, .inr (.inl u_2)))]) (va_runV (As := []) (rest := []) ⟨hx, hb, hml, hown, hts⟩ (c_M_thrown l eD eI ad dC dI H.size mm ((.ref ms)) ((.ref mt)) ((.ref mh)) ((.ref me)) u_1) (cwV 0 hts gl_c_M_thrown rfl rfl rfl (by decide +kernel) ⟨Nat.le_of_ble_eq_true rfl, Nat.le_of_ble_eq_true rfl⟩) (z_preV (wc := [(mm, .inr (21, [.int u_1, .ref ms, .ref mt, .ref mh, .ref me]))]) hP hD hK hS hA hE [18] [] rfl (by decide) rfl (ci := 21) (q0 := 0) rfl rfl) rfl rfl hl.1 rfl (lv_room (Nat.le_of_ble_eq_true rfl)) dL_law_434 ⟨Nat.le_of_ble_eq_true rfl, Nat.le_of_ble_eq_true rfl⟩) hP hD hK hS hA [18] [0, 1, 2, 3, 4, 5, 6, 7, 8, 9, 10, 11, 12, 13, 14, 15, 16, 17] rfl rfl (by decide) (by decide) (fun r_13 u H locs hw_14 hP hD hK hS => ?_)
  obtain ⟨⟩ := u
  have hP : va_P (dC, dI) vwCl [(achoo, .inr (3, [.ref aroom, .ref ameth, .ref acand, .ref ahint, .int 0, .int (-1), .int 0, .int 0, .null])), (anod, .inr (7, [.ref nm, .ref nl, .ref n1, .ref n2, .ref nf, .ref ns, .ref nh, .ref nk, .ref np, .int 16, .int 0, .int 16, .int 0, .int 0])), (apair, .inr (8, [.ref apsl, .int 0, .int 0])), (asize, .inr (10, [.ref azsl, .int 0])), (anote, .inr (5, [.ref af1, .ref af2, .ref af3, .int 0])), (aexpr, .inr (1, [.int 0, .ref eD, .int 0])), (ameth, .inr (1, [.int 0, .ref eD, .int 0])), (asort, .inr (1, [.int 0, .ref eD, .int 0])), (astep, .inr (1, [.int 0, .ref eD, .int 0])), (ns, .inl (kL, 1024, .inr (.inl zSec))), (nf, .inl (kL, 1024, .inr (.inl zFir))), (nm, .inl (kI, 12, .inl (fun _ => 0))), (nl, .inl (kI, 12, .inl (fun _ => 0))), (n1, .inl (kI, 12, .inl (fun _ => 0))), (n2, .inl (kI, 12, .inl (fun _ => 0))), (apsl, .inl (kL, 512, .inr (.inl (fun _ => 0)))), (azsl, .inl (kL, 0, .inr (.inl (fun _ => 0)))), (ou, .inl (kL, 1, .inr (.inl u_2))), (mm, .inr (21, [.int u_1, .ref ms, .ref mt, .ref mh, .ref me]))] H := hP
  have hD : va_D A [(achoo, .inr (3, [.ref aroom, .ref ameth, .ref acand, .ref ahint, .int 0, .int (-1), .int 0, .int 0, .null])), (anod, .inr (7, [.ref nm, .ref nl, .ref n1, .ref n2, .ref nf, .ref ns, .ref nh, .ref nk, .ref np, .int 16, .int 0, .int 16, .int 0, .int 0])), (apair, .inr (8, [.ref apsl, .int 0, .int 0])), (asize, .inr (10, [.ref azsl, .int 0])), (anote, .inr (5, [.ref af1, .ref af2, .ref af3, .int 0])), (aexpr, .inr (1, [.int 0, .ref eD, .int 0])), (ameth, .inr (1, [.int 0, .ref eD, .int 0])), (asort, .inr (1, [.int 0, .ref eD, .int 0])), (astep, .inr (1, [.int 0, .ref eD, .int 0])), (ns, .inl (kL, 1024, .inr (.inl zSec))), (nf, .inl (kL, 1024, .inr (.inl zFir))), (nm, .inl (kI, 12, .inl (fun _ => 0))), (nl, .inl (kI, 12, .inl (fun _ => 0))), (n1, .inl (kI, 12, .inl (fun _ => 0))), (n2, .inl (kI, 12, .inl (fun _ => 0))), (apsl, .inl (kL, 512, .inr (.inl (fun _ => 0)))), (azsl, .inl (kL, 0, .inr (.inl (fun _ => 0)))), (ou, .inl (kL, 1, .inr (.inl u_2))), (mm, .inr (21, [.int u_1, .ref ms, .ref mt, .ref mh, .ref me]))] := hD
  have hK : va_K (dC, dI) vwCl [(kI, .int), (kL, .long), (kO, .object "java/lang/Object"), (kT, .object "HornbookModel$Tree"), (kL, .long)] s := by simpa using hK
  have hw_14 : r_13 = u_1 := hw_14
  have hw_14 := hw_14.symm
  subst hw_14
  refine lv_iload hx hb dL_law_437 (lv_at hl 1 rfl) ?_
  refine lv_icmp_eq (tgt := 444) hx hb dL_law_439 (by decide) (fun c_15 => ?_) (fun c_15 => ?_)
  rotate_left
  · exact absurd rfl c_15
  refine lv_iload hx hb dL_law_444 (lv_at hl 1 rfl) ?_
  refine lv_if_ne (tgt := 461) hx hb dL_law_446 (by decide) (fun c_16 => ?_) (fun c_16 => ?_)
  · refine lv_goto (tgt := 2196) hx hb dL_law_461 (by decide) ?_
    exact law_tail l Z hS (lv_sub hl [2, 6] rfl) (Nat.le_of_ble_eq_true rfl) (Nat.le_of_ble_eq_true rfl)
  · refine lv_aload_n hx hb dL_law_449 rfl (lv_at hl 3 rfl) ?_
    have hf9 := hp_6 c_16
    have hv9 := hp_12 c_16
    refine lv_iconst (v := 0) hx hb dL_law_450 (by decide) ?_
    refine va_lald (D := (dC, dI)) hx hb hK hP 17 1 rfl rfl (by unfold vp_in; decide) dL_law_451 ?_
    refine lv_iload hx hb dL_law_452 (lv_at hl 0 rfl) ?_
    refine lv_i2l (v := u_8.toInt64) hx hb dL_law_454 rfl ?_
    refine W.lcmp hx hb dL_law_455 ?_
    refine z_top (v' := .int 0) (congrArg Value.int (by rw [hf9, hv9]; exact z_cmp0 _)) ?_
    refine lv_if_eq (tgt := 461) hx hb dL_law_456 (by decide) (fun c_17 => ?_) (fun c_17 => ?_)
    rotate_left
    · exact absurd (by decide) c_17
    refine lv_goto (tgt := 2196) hx hb dL_law_461 (by decide) ?_
    exact law_tail l Z hS (lv_sub hl [2, 6] rfl) (Nat.le_of_ble_eq_true rfl) (Nat.le_of_ble_eq_true rfl)
