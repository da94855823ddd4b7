theorem d_law_0 : decode code 0 = .ok (.new 7, 3) := by decide +kernel
theorem d_law_3 : decode code 3 = .ok (.dup, 1) := by decide +kernel
theorem d_law_4 : decode code 4 = .ok (.invokespecial 9, 3) := by decide +kernel
theorem d_law_7 : decode code 7 = .ok (.astore_n 1, 1) := by decide +kernel
theorem d_law_8 : decode code 8 = .ok (.new 10, 3) := by decide +kernel
theorem d_law_11 : decode code 11 = .ok (.dup, 1) := by decide +kernel
theorem d_law_12 : decode code 12 = .ok (.invokespecial 12, 3) := by decide +kernel
theorem d_law_15 : decode code 15 = .ok (.astore_n 2, 1) := by decide +kernel
theorem d_law_16 : decode code 16 = .ok (.iconst 0, 1) := by decide +kernel
theorem d_law_17 : decode code 17 = .ok (.istore_n 3, 1) := by decide +kernel
theorem d_law_18 : decode code 18 = .ok (.iload_n 3, 1) := by decide +kernel
theorem d_law_19 : decode code 19 = .ok (.aload_n 0, 1) := by decide +kernel
theorem d_law_20 : decode code 20 = .ok (.arraylength, 1) := by decide +kernel
theorem d_law_21 : decode code 21 = .ok (.iconst 4, 1) := by decide +kernel
theorem d_law_22 : decode code 22 = .ok (.isub, 1) := by decide +kernel
theorem d_law_23 : decode code 23 = .ok (.if_icmp .gt 679, 3) := by decide +kernel
theorem d_law_26 : decode code 26 = .ok (.aload_n 0, 1) := by decide +kernel
theorem d_law_27 : decode code 27 = .ok (.iload_n 3, 1) := by decide +kernel
theorem d_law_28 : decode code 28 = .ok (.iaload, 1) := by decide +kernel
theorem d_law_29 : decode code 29 = .ok (.bipush 31, 2) := by decide +kernel
theorem d_law_31 : decode code 31 = .ok (.iand, 1) := by decide +kernel
theorem d_law_32 : decode code 32 = .ok (.tableswitch 664 0 23 #[112, 125, 168, 191, 214, 237, 260, 273, 296, 319, 352, 385, 418, 441, 454, 477, 490, 513, 566, 579, 592, 605, 618, 641], 112) := by decide +kernel
theorem d_law_144 : decode code 144 = .ok (.aload_n 1, 1) := by decide +kernel
theorem d_law_145 : decode code 145 = .ok (.invokevirtual 13, 3) := by decide +kernel
theorem d_law_148 : decode code 148 = .ok (.aload_n 2, 1) := by decide +kernel
theorem d_law_149 : decode code 149 = .ok (.invokevirtual 17, 3) := by decide +kernel
theorem d_law_152 : decode code 152 = .ok (.if_icmp .eq 544, 3) := by decide +kernel
theorem d_law_155 : decode code 155 = .ok (.iconst 0, 1) := by decide +kernel
theorem d_law_156 : decode code 156 = .ok (.ireturn, 1) := by decide +kernel
theorem d_law_157 : decode code 157 = .ok (.aload_n 1, 1) := by decide +kernel
theorem d_law_158 : decode code 158 = .ok (.aload_n 0, 1) := by decide +kernel
theorem d_law_159 : decode code 159 = .ok (.iload_n 3, 1) := by decide +kernel
theorem d_law_160 : decode code 160 = .ok (.iconst 1, 1) := by decide +kernel
theorem d_law_161 : decode code 161 = .ok (.iadd, 1) := by decide +kernel
theorem d_law_162 : decode code 162 = .ok (.iaload, 1) := by decide +kernel
theorem d_law_163 : decode code 163 = .ok (.aload_n 0, 1) := by decide +kernel
theorem d_law_164 : decode code 164 = .ok (.iload_n 3, 1) := by decide +kernel
theorem d_law_165 : decode code 165 = .ok (.iconst 2, 1) := by decide +kernel
theorem d_law_166 : decode code 166 = .ok (.iadd, 1) := by decide +kernel
theorem d_law_167 : decode code 167 = .ok (.iaload, 1) := by decide +kernel
theorem d_law_168 : decode code 168 = .ok (.aload_n 0, 1) := by decide +kernel
theorem d_law_169 : decode code 169 = .ok (.iload_n 3, 1) := by decide +kernel
theorem d_law_170 : decode code 170 = .ok (.iconst 3, 1) := by decide +kernel
theorem d_law_171 : decode code 171 = .ok (.iadd, 1) := by decide +kernel
theorem d_law_172 : decode code 172 = .ok (.iaload, 1) := by decide +kernel
theorem d_law_173 : decode code 173 = .ok (.invokevirtual 18, 3) := by decide +kernel
theorem d_law_176 : decode code 176 = .ok (.aload_n 2, 1) := by decide +kernel
theorem d_law_177 : decode code 177 = .ok (.aload_n 0, 1) := by decide +kernel
theorem d_law_178 : decode code 178 = .ok (.iload_n 3, 1) := by decide +kernel
theorem d_law_179 : decode code 179 = .ok (.iconst 1, 1) := by decide +kernel
theorem d_law_180 : decode code 180 = .ok (.iadd, 1) := by decide +kernel
theorem d_law_181 : decode code 181 = .ok (.iaload, 1) := by decide +kernel
theorem d_law_182 : decode code 182 = .ok (.aload_n 0, 1) := by decide +kernel
theorem d_law_183 : decode code 183 = .ok (.iload_n 3, 1) := by decide +kernel
theorem d_law_184 : decode code 184 = .ok (.iconst 2, 1) := by decide +kernel
theorem d_law_185 : decode code 185 = .ok (.iadd, 1) := by decide +kernel
theorem d_law_186 : decode code 186 = .ok (.iaload, 1) := by decide +kernel
theorem d_law_187 : decode code 187 = .ok (.aload_n 0, 1) := by decide +kernel
theorem d_law_188 : decode code 188 = .ok (.iload_n 3, 1) := by decide +kernel
theorem d_law_189 : decode code 189 = .ok (.iconst 3, 1) := by decide +kernel
theorem d_law_190 : decode code 190 = .ok (.iadd, 1) := by decide +kernel
theorem d_law_191 : decode code 191 = .ok (.iaload, 1) := by decide +kernel
theorem d_law_192 : decode code 192 = .ok (.invokevirtual 22, 3) := by decide +kernel
theorem d_law_195 : decode code 195 = .ok (.if_icmp .eq 501, 3) := by decide +kernel
theorem d_law_198 : decode code 198 = .ok (.iconst 0, 1) := by decide +kernel
theorem d_law_199 : decode code 199 = .ok (.ireturn, 1) := by decide +kernel
theorem d_law_200 : decode code 200 = .ok (.aload_n 1, 1) := by decide +kernel
theorem d_law_201 : decode code 201 = .ok (.aload_n 0, 1) := by decide +kernel
theorem d_law_202 : decode code 202 = .ok (.iload_n 3, 1) := by decide +kernel
theorem d_law_203 : decode code 203 = .ok (.iconst 1, 1) := by decide +kernel
theorem d_law_204 : decode code 204 = .ok (.iadd, 1) := by decide +kernel
theorem d_law_205 : decode code 205 = .ok (.iaload, 1) := by decide +kernel
theorem d_law_206 : decode code 206 = .ok (.invokevirtual 23, 3) := by decide +kernel
theorem d_law_209 : decode code 209 = .ok (.aload_n 2, 1) := by decide +kernel
theorem d_law_210 : decode code 210 = .ok (.aload_n 0, 1) := by decide +kernel
theorem d_law_211 : decode code 211 = .ok (.iload_n 3, 1) := by decide +kernel
theorem d_law_212 : decode code 212 = .ok (.iconst 1, 1) := by decide +kernel
theorem d_law_213 : decode code 213 = .ok (.iadd, 1) := by decide +kernel
theorem d_law_214 : decode code 214 = .ok (.iaload, 1) := by decide +kernel
theorem d_law_215 : decode code 215 = .ok (.invokevirtual 27, 3) := by decide +kernel
theorem d_law_218 : decode code 218 = .ok (.if_icmp .eq 478, 3) := by decide +kernel
theorem d_law_221 : decode code 221 = .ok (.iconst 0, 1) := by decide +kernel
theorem d_law_222 : decode code 222 = .ok (.ireturn, 1) := by decide +kernel
theorem d_law_223 : decode code 223 = .ok (.aload_n 1, 1) := by decide +kernel
theorem d_law_224 : decode code 224 = .ok (.aload_n 0, 1) := by decide +kernel
theorem d_law_225 : decode code 225 = .ok (.iload_n 3, 1) := by decide +kernel
theorem d_law_226 : decode code 226 = .ok (.iconst 1, 1) := by decide +kernel
theorem d_law_227 : decode code 227 = .ok (.iadd, 1) := by decide +kernel
theorem d_law_228 : decode code 228 = .ok (.iaload, 1) := by decide +kernel
theorem d_law_229 : decode code 229 = .ok (.invokevirtual 28, 3) := by decide +kernel
theorem d_law_232 : decode code 232 = .ok (.aload_n 2, 1) := by decide +kernel
theorem d_law_233 : decode code 233 = .ok (.aload_n 0, 1) := by decide +kernel
theorem d_law_234 : decode code 234 = .ok (.iload_n 3, 1) := by decide +kernel
theorem d_law_235 : decode code 235 = .ok (.iconst 1, 1) := by decide +kernel
theorem d_law_236 : decode code 236 = .ok (.iadd, 1) := by decide +kernel
theorem d_law_237 : decode code 237 = .ok (.iaload, 1) := by decide +kernel
theorem d_law_238 : decode code 238 = .ok (.invokevirtual 31, 3) := by decide +kernel
theorem d_law_241 : decode code 241 = .ok (.if_icmp .eq 455, 3) := by decide +kernel
theorem d_law_244 : decode code 244 = .ok (.iconst 0, 1) := by decide +kernel
theorem d_law_245 : decode code 245 = .ok (.ireturn, 1) := by decide +kernel
theorem d_law_246 : decode code 246 = .ok (.aload_n 1, 1) := by decide +kernel
theorem d_law_247 : decode code 247 = .ok (.aload_n 0, 1) := by decide +kernel
theorem d_law_248 : decode code 248 = .ok (.iload_n 3, 1) := by decide +kernel
theorem d_law_249 : decode code 249 = .ok (.iconst 1, 1) := by decide +kernel
theorem d_law_250 : decode code 250 = .ok (.iadd, 1) := by decide +kernel
theorem d_law_251 : decode code 251 = .ok (.iaload, 1) := by decide +kernel
theorem d_law_252 : decode code 252 = .ok (.invokevirtual 32, 3) := by decide +kernel
theorem d_law_255 : decode code 255 = .ok (.aload_n 2, 1) := by decide +kernel
theorem d_law_256 : decode code 256 = .ok (.aload_n 0, 1) := by decide +kernel
theorem d_law_257 : decode code 257 = .ok (.iload_n 3, 1) := by decide +kernel
theorem d_law_258 : decode code 258 = .ok (.iconst 1, 1) := by decide +kernel
theorem d_law_259 : decode code 259 = .ok (.iadd, 1) := by decide +kernel
theorem d_law_260 : decode code 260 = .ok (.iaload, 1) := by decide +kernel
theorem d_law_261 : decode code 261 = .ok (.invokevirtual 35, 3) := by decide +kernel
theorem d_law_264 : decode code 264 = .ok (.if_icmp .eq 432, 3) := by decide +kernel
theorem d_law_267 : decode code 267 = .ok (.iconst 0, 1) := by decide +kernel
theorem d_law_268 : decode code 268 = .ok (.ireturn, 1) := by decide +kernel
theorem d_law_269 : decode code 269 = .ok (.aload_n 1, 1) := by decide +kernel
theorem d_law_270 : decode code 270 = .ok (.aload_n 0, 1) := by decide +kernel
theorem d_law_271 : decode code 271 = .ok (.iload_n 3, 1) := by decide +kernel
theorem d_law_272 : decode code 272 = .ok (.iconst 1, 1) := by decide +kernel
theorem d_law_273 : decode code 273 = .ok (.iadd, 1) := by decide +kernel
theorem d_law_274 : decode code 274 = .ok (.iaload, 1) := by decide +kernel
theorem d_law_275 : decode code 275 = .ok (.invokevirtual 36, 3) := by decide +kernel
theorem d_law_278 : decode code 278 = .ok (.aload_n 2, 1) := by decide +kernel
theorem d_law_279 : decode code 279 = .ok (.aload_n 0, 1) := by decide +kernel
theorem d_law_280 : decode code 280 = .ok (.iload_n 3, 1) := by decide +kernel
theorem d_law_281 : decode code 281 = .ok (.iconst 1, 1) := by decide +kernel
theorem d_law_282 : decode code 282 = .ok (.iadd, 1) := by decide +kernel
theorem d_law_283 : decode code 283 = .ok (.iaload, 1) := by decide +kernel
theorem d_law_284 : decode code 284 = .ok (.invokevirtual 39, 3) := by decide +kernel
theorem d_law_287 : decode code 287 = .ok (.if_icmp .eq 409, 3) := by decide +kernel
theorem d_law_290 : decode code 290 = .ok (.iconst 0, 1) := by decide +kernel
theorem d_law_291 : decode code 291 = .ok (.ireturn, 1) := by decide +kernel
theorem d_law_292 : decode code 292 = .ok (.aload_n 1, 1) := by decide +kernel
theorem d_law_293 : decode code 293 = .ok (.invokevirtual 40, 3) := by decide +kernel
theorem d_law_296 : decode code 296 = .ok (.aload_n 2, 1) := by decide +kernel
theorem d_law_297 : decode code 297 = .ok (.invokevirtual 43, 3) := by decide +kernel
theorem d_law_300 : decode code 300 = .ok (.if_icmp .eq 396, 3) := by decide +kernel
theorem d_law_303 : decode code 303 = .ok (.iconst 0, 1) := by decide +kernel
theorem d_law_304 : decode code 304 = .ok (.ireturn, 1) := by decide +kernel
theorem d_law_305 : decode code 305 = .ok (.aload_n 1, 1) := by decide +kernel
theorem d_law_306 : decode code 306 = .ok (.aload_n 0, 1) := by decide +kernel
theorem d_law_307 : decode code 307 = .ok (.iload_n 3, 1) := by decide +kernel
theorem d_law_308 : decode code 308 = .ok (.iconst 1, 1) := by decide +kernel
theorem d_law_309 : decode code 309 = .ok (.iadd, 1) := by decide +kernel
theorem d_law_310 : decode code 310 = .ok (.iaload, 1) := by decide +kernel
theorem d_law_311 : decode code 311 = .ok (.invokevirtual 44, 3) := by decide +kernel
theorem d_law_314 : decode code 314 = .ok (.aload_n 2, 1) := by decide +kernel
theorem d_law_315 : decode code 315 = .ok (.aload_n 0, 1) := by decide +kernel
theorem d_law_316 : decode code 316 = .ok (.iload_n 3, 1) := by decide +kernel
theorem d_law_317 : decode code 317 = .ok (.iconst 1, 1) := by decide +kernel
theorem d_law_318 : decode code 318 = .ok (.iadd, 1) := by decide +kernel
theorem d_law_319 : decode code 319 = .ok (.iaload, 1) := by decide +kernel
theorem d_law_320 : decode code 320 = .ok (.invokevirtual 47, 3) := by decide +kernel
theorem d_law_323 : decode code 323 = .ok (.if_icmp .eq 373, 3) := by decide +kernel
theorem d_law_326 : decode code 326 = .ok (.iconst 0, 1) := by decide +kernel
theorem d_law_327 : decode code 327 = .ok (.ireturn, 1) := by decide +kernel
theorem d_law_328 : decode code 328 = .ok (.aload_n 1, 1) := by decide +kernel
theorem d_law_329 : decode code 329 = .ok (.aload_n 0, 1) := by decide +kernel
theorem d_law_330 : decode code 330 = .ok (.iload_n 3, 1) := by decide +kernel
theorem d_law_331 : decode code 331 = .ok (.iconst 1, 1) := by decide +kernel
theorem d_law_332 : decode code 332 = .ok (.iadd, 1) := by decide +kernel
theorem d_law_333 : decode code 333 = .ok (.iaload, 1) := by decide +kernel
theorem d_law_334 : decode code 334 = .ok (.invokevirtual 48, 3) := by decide +kernel
theorem d_law_337 : decode code 337 = .ok (.aload_n 2, 1) := by decide +kernel
theorem d_law_338 : decode code 338 = .ok (.aload_n 0, 1) := by decide +kernel
theorem d_law_339 : decode code 339 = .ok (.iload_n 3, 1) := by decide +kernel
theorem d_law_340 : decode code 340 = .ok (.iconst 1, 1) := by decide +kernel
theorem d_law_341 : decode code 341 = .ok (.iadd, 1) := by decide +kernel
theorem d_law_342 : decode code 342 = .ok (.iaload, 1) := by decide +kernel
theorem d_law_343 : decode code 343 = .ok (.invokevirtual 51, 3) := by decide +kernel
theorem d_law_346 : decode code 346 = .ok (.if_icmp .eq 350, 3) := by decide +kernel
theorem d_law_349 : decode code 349 = .ok (.iconst 0, 1) := by decide +kernel
theorem d_law_350 : decode code 350 = .ok (.ireturn, 1) := by decide +kernel
theorem d_law_351 : decode code 351 = .ok (.aload_n 1, 1) := by decide +kernel
theorem d_law_352 : decode code 352 = .ok (.aload_n 0, 1) := by decide +kernel
theorem d_law_353 : decode code 353 = .ok (.iload_n 3, 1) := by decide +kernel
theorem d_law_354 : decode code 354 = .ok (.iconst 1, 1) := by decide +kernel
theorem d_law_355 : decode code 355 = .ok (.iadd, 1) := by decide +kernel
theorem d_law_356 : decode code 356 = .ok (.iaload, 1) := by decide +kernel
theorem d_law_357 : decode code 357 = .ok (.aload_n 0, 1) := by decide +kernel
theorem d_law_358 : decode code 358 = .ok (.iload_n 3, 1) := by decide +kernel
theorem d_law_359 : decode code 359 = .ok (.iconst 2, 1) := by decide +kernel
theorem d_law_360 : decode code 360 = .ok (.iadd, 1) := by decide +kernel
theorem d_law_361 : decode code 361 = .ok (.iaload, 1) := by decide +kernel
theorem d_law_362 : decode code 362 = .ok (.invokevirtual 52, 3) := by decide +kernel
theorem d_law_365 : decode code 365 = .ok (.aload_n 2, 1) := by decide +kernel
theorem d_law_366 : decode code 366 = .ok (.aload_n 0, 1) := by decide +kernel
theorem d_law_367 : decode code 367 = .ok (.iload_n 3, 1) := by decide +kernel
theorem d_law_368 : decode code 368 = .ok (.iconst 1, 1) := by decide +kernel
theorem d_law_369 : decode code 369 = .ok (.iadd, 1) := by decide +kernel
theorem d_law_370 : decode code 370 = .ok (.iaload, 1) := by decide +kernel
theorem d_law_371 : decode code 371 = .ok (.aload_n 0, 1) := by decide +kernel
theorem d_law_372 : decode code 372 = .ok (.iload_n 3, 1) := by decide +kernel
theorem d_law_373 : decode code 373 = .ok (.iconst 2, 1) := by decide +kernel
theorem d_law_374 : decode code 374 = .ok (.iadd, 1) := by decide +kernel
theorem d_law_375 : decode code 375 = .ok (.iaload, 1) := by decide +kernel
theorem d_law_376 : decode code 376 = .ok (.invokevirtual 56, 3) := by decide +kernel
theorem d_law_379 : decode code 379 = .ok (.if_icmp .eq 317, 3) := by decide +kernel
theorem d_law_382 : decode code 382 = .ok (.iconst 0, 1) := by decide +kernel
theorem d_law_383 : decode code 383 = .ok (.ireturn, 1) := by decide +kernel
theorem d_law_384 : decode code 384 = .ok (.aload_n 1, 1) := by decide +kernel
theorem d_law_385 : decode code 385 = .ok (.aload_n 0, 1) := by decide +kernel
theorem d_law_386 : decode code 386 = .ok (.iload_n 3, 1) := by decide +kernel
theorem d_law_387 : decode code 387 = .ok (.iconst 1, 1) := by decide +kernel
theorem d_law_388 : decode code 388 = .ok (.iadd, 1) := by decide +kernel
theorem d_law_389 : decode code 389 = .ok (.iaload, 1) := by decide +kernel
theorem d_law_390 : decode code 390 = .ok (.aload_n 0, 1) := by decide +kernel
theorem d_law_391 : decode code 391 = .ok (.iload_n 3, 1) := by decide +kernel
theorem d_law_392 : decode code 392 = .ok (.iconst 2, 1) := by decide +kernel
theorem d_law_393 : decode code 393 = .ok (.iadd, 1) := by decide +kernel
theorem d_law_394 : decode code 394 = .ok (.iaload, 1) := by decide +kernel
theorem d_law_395 : decode code 395 = .ok (.invokevirtual 57, 3) := by decide +kernel
theorem d_law_398 : decode code 398 = .ok (.aload_n 2, 1) := by decide +kernel
theorem d_law_399 : decode code 399 = .ok (.aload_n 0, 1) := by decide +kernel
theorem d_law_400 : decode code 400 = .ok (.iload_n 3, 1) := by decide +kernel
theorem d_law_401 : decode code 401 = .ok (.iconst 1, 1) := by decide +kernel
theorem d_law_402 : decode code 402 = .ok (.iadd, 1) := by decide +kernel
theorem d_law_403 : decode code 403 = .ok (.iaload, 1) := by decide +kernel
theorem d_law_404 : decode code 404 = .ok (.aload_n 0, 1) := by decide +kernel
theorem d_law_405 : decode code 405 = .ok (.iload_n 3, 1) := by decide +kernel
theorem d_law_406 : decode code 406 = .ok (.iconst 2, 1) := by decide +kernel
theorem d_law_407 : decode code 407 = .ok (.iadd, 1) := by decide +kernel
theorem d_law_408 : decode code 408 = .ok (.iaload, 1) := by decide +kernel
theorem d_law_409 : decode code 409 = .ok (.invokevirtual 60, 3) := by decide +kernel
theorem d_law_412 : decode code 412 = .ok (.if_icmp .eq 284, 3) := by decide +kernel
theorem d_law_415 : decode code 415 = .ok (.iconst 0, 1) := by decide +kernel
theorem d_law_416 : decode code 416 = .ok (.ireturn, 1) := by decide +kernel
theorem d_law_417 : decode code 417 = .ok (.aload_n 1, 1) := by decide +kernel
theorem d_law_418 : decode code 418 = .ok (.aload_n 0, 1) := by decide +kernel
theorem d_law_419 : decode code 419 = .ok (.iload_n 3, 1) := by decide +kernel
theorem d_law_420 : decode code 420 = .ok (.iconst 1, 1) := by decide +kernel
theorem d_law_421 : decode code 421 = .ok (.iadd, 1) := by decide +kernel
theorem d_law_422 : decode code 422 = .ok (.iaload, 1) := by decide +kernel
theorem d_law_423 : decode code 423 = .ok (.aload_n 0, 1) := by decide +kernel
theorem d_law_424 : decode code 424 = .ok (.iload_n 3, 1) := by decide +kernel
theorem d_law_425 : decode code 425 = .ok (.iconst 2, 1) := by decide +kernel
theorem d_law_426 : decode code 426 = .ok (.iadd, 1) := by decide +kernel
theorem d_law_427 : decode code 427 = .ok (.iaload, 1) := by decide +kernel
theorem d_law_428 : decode code 428 = .ok (.invokevirtual 61, 3) := by decide +kernel
theorem d_law_431 : decode code 431 = .ok (.aload_n 2, 1) := by decide +kernel
theorem d_law_432 : decode code 432 = .ok (.aload_n 0, 1) := by decide +kernel
theorem d_law_433 : decode code 433 = .ok (.iload_n 3, 1) := by decide +kernel
theorem d_law_434 : decode code 434 = .ok (.iconst 1, 1) := by decide +kernel
theorem d_law_435 : decode code 435 = .ok (.iadd, 1) := by decide +kernel
theorem d_law_436 : decode code 436 = .ok (.iaload, 1) := by decide +kernel
theorem d_law_437 : decode code 437 = .ok (.aload_n 0, 1) := by decide +kernel
theorem d_law_438 : decode code 438 = .ok (.iload_n 3, 1) := by decide +kernel
theorem d_law_439 : decode code 439 = .ok (.iconst 2, 1) := by decide +kernel
theorem d_law_440 : decode code 440 = .ok (.iadd, 1) := by decide +kernel
theorem d_law_441 : decode code 441 = .ok (.iaload, 1) := by decide +kernel
theorem d_law_442 : decode code 442 = .ok (.invokevirtual 64, 3) := by decide +kernel
theorem d_law_445 : decode code 445 = .ok (.if_icmp .eq 251, 3) := by decide +kernel
theorem d_law_448 : decode code 448 = .ok (.iconst 0, 1) := by decide +kernel
theorem d_law_449 : decode code 449 = .ok (.ireturn, 1) := by decide +kernel
theorem d_law_450 : decode code 450 = .ok (.aload_n 1, 1) := by decide +kernel
theorem d_law_451 : decode code 451 = .ok (.aload_n 0, 1) := by decide +kernel
theorem d_law_452 : decode code 452 = .ok (.iload_n 3, 1) := by decide +kernel
theorem d_law_453 : decode code 453 = .ok (.iconst 1, 1) := by decide +kernel
theorem d_law_454 : decode code 454 = .ok (.iadd, 1) := by decide +kernel
theorem d_law_455 : decode code 455 = .ok (.iaload, 1) := by decide +kernel
theorem d_law_456 : decode code 456 = .ok (.invokevirtual 65, 3) := by decide +kernel
theorem d_law_459 : decode code 459 = .ok (.aload_n 2, 1) := by decide +kernel
theorem d_law_460 : decode code 460 = .ok (.aload_n 0, 1) := by decide +kernel
theorem d_law_461 : decode code 461 = .ok (.iload_n 3, 1) := by decide +kernel
theorem d_law_462 : decode code 462 = .ok (.iconst 1, 1) := by decide +kernel
theorem d_law_463 : decode code 463 = .ok (.iadd, 1) := by decide +kernel
theorem d_law_464 : decode code 464 = .ok (.iaload, 1) := by decide +kernel
theorem d_law_465 : decode code 465 = .ok (.invokevirtual 68, 3) := by decide +kernel
theorem d_law_468 : decode code 468 = .ok (.if_icmp .eq 228, 3) := by decide +kernel
theorem d_law_471 : decode code 471 = .ok (.iconst 0, 1) := by decide +kernel
theorem d_law_472 : decode code 472 = .ok (.ireturn, 1) := by decide +kernel
theorem d_law_473 : decode code 473 = .ok (.aload_n 1, 1) := by decide +kernel
theorem d_law_474 : decode code 474 = .ok (.invokevirtual 69, 3) := by decide +kernel
theorem d_law_477 : decode code 477 = .ok (.aload_n 2, 1) := by decide +kernel
theorem d_law_478 : decode code 478 = .ok (.invokevirtual 72, 3) := by decide +kernel
theorem d_law_481 : decode code 481 = .ok (.if_icmp .eq 215, 3) := by decide +kernel
theorem d_law_484 : decode code 484 = .ok (.iconst 0, 1) := by decide +kernel
theorem d_law_485 : decode code 485 = .ok (.ireturn, 1) := by decide +kernel
theorem d_law_486 : decode code 486 = .ok (.aload_n 1, 1) := by decide +kernel
theorem d_law_487 : decode code 487 = .ok (.aload_n 0, 1) := by decide +kernel
theorem d_law_488 : decode code 488 = .ok (.iload_n 3, 1) := by decide +kernel
theorem d_law_489 : decode code 489 = .ok (.iconst 1, 1) := by decide +kernel
theorem d_law_490 : decode code 490 = .ok (.iadd, 1) := by decide +kernel
theorem d_law_491 : decode code 491 = .ok (.iaload, 1) := by decide +kernel
theorem d_law_492 : decode code 492 = .ok (.invokevirtual 73, 3) := by decide +kernel
theorem d_law_495 : decode code 495 = .ok (.aload_n 2, 1) := by decide +kernel
theorem d_law_496 : decode code 496 = .ok (.aload_n 0, 1) := by decide +kernel
theorem d_law_497 : decode code 497 = .ok (.iload_n 3, 1) := by decide +kernel
theorem d_law_498 : decode code 498 = .ok (.iconst 1, 1) := by decide +kernel
theorem d_law_499 : decode code 499 = .ok (.iadd, 1) := by decide +kernel
theorem d_law_500 : decode code 500 = .ok (.iaload, 1) := by decide +kernel
theorem d_law_501 : decode code 501 = .ok (.invokevirtual 76, 3) := by decide +kernel
theorem d_law_504 : decode code 504 = .ok (.if_icmp .eq 192, 3) := by decide +kernel
theorem d_law_507 : decode code 507 = .ok (.iconst 0, 1) := by decide +kernel
theorem d_law_508 : decode code 508 = .ok (.ireturn, 1) := by decide +kernel
theorem d_law_509 : decode code 509 = .ok (.aload_n 1, 1) := by decide +kernel
theorem d_law_510 : decode code 510 = .ok (.invokevirtual 77, 3) := by decide +kernel
theorem d_law_513 : decode code 513 = .ok (.aload_n 2, 1) := by decide +kernel
theorem d_law_514 : decode code 514 = .ok (.invokevirtual 80, 3) := by decide +kernel
theorem d_law_517 : decode code 517 = .ok (.if_icmp .eq 179, 3) := by decide +kernel
theorem d_law_520 : decode code 520 = .ok (.iconst 0, 1) := by decide +kernel
theorem d_law_521 : decode code 521 = .ok (.ireturn, 1) := by decide +kernel
theorem d_law_522 : decode code 522 = .ok (.aload_n 1, 1) := by decide +kernel
theorem d_law_523 : decode code 523 = .ok (.aload_n 0, 1) := by decide +kernel
theorem d_law_524 : decode code 524 = .ok (.iload_n 3, 1) := by decide +kernel
theorem d_law_525 : decode code 525 = .ok (.iconst 1, 1) := by decide +kernel
theorem d_law_526 : decode code 526 = .ok (.iadd, 1) := by decide +kernel
theorem d_law_527 : decode code 527 = .ok (.iaload, 1) := by decide +kernel
theorem d_law_528 : decode code 528 = .ok (.invokevirtual 81, 3) := by decide +kernel
theorem d_law_531 : decode code 531 = .ok (.aload_n 2, 1) := by decide +kernel
theorem d_law_532 : decode code 532 = .ok (.aload_n 0, 1) := by decide +kernel
theorem d_law_533 : decode code 533 = .ok (.iload_n 3, 1) := by decide +kernel
theorem d_law_534 : decode code 534 = .ok (.iconst 1, 1) := by decide +kernel
theorem d_law_535 : decode code 535 = .ok (.iadd, 1) := by decide +kernel
theorem d_law_536 : decode code 536 = .ok (.iaload, 1) := by decide +kernel
theorem d_law_537 : decode code 537 = .ok (.invokevirtual 84, 3) := by decide +kernel
theorem d_law_540 : decode code 540 = .ok (.if_icmp .eq 156, 3) := by decide +kernel
theorem d_law_543 : decode code 543 = .ok (.iconst 0, 1) := by decide +kernel
theorem d_law_544 : decode code 544 = .ok (.ireturn, 1) := by decide +kernel
theorem d_law_545 : decode code 545 = .ok (.aload_n 1, 1) := by decide +kernel
theorem d_law_546 : decode code 546 = .ok (.aload_n 0, 1) := by decide +kernel
theorem d_law_547 : decode code 547 = .ok (.iload_n 3, 1) := by decide +kernel
theorem d_law_548 : decode code 548 = .ok (.iconst 1, 1) := by decide +kernel
theorem d_law_549 : decode code 549 = .ok (.iadd, 1) := by decide +kernel
theorem d_law_550 : decode code 550 = .ok (.iaload, 1) := by decide +kernel
theorem d_law_551 : decode code 551 = .ok (.i2l, 1) := by decide +kernel
theorem d_law_552 : decode code 552 = .ok (.bipush 32, 2) := by decide +kernel
theorem d_law_554 : decode code 554 = .ok (.lshl, 1) := by decide +kernel
theorem d_law_555 : decode code 555 = .ok (.aload_n 0, 1) := by decide +kernel
theorem d_law_556 : decode code 556 = .ok (.iload_n 3, 1) := by decide +kernel
theorem d_law_557 : decode code 557 = .ok (.iconst 2, 1) := by decide +kernel
theorem d_law_558 : decode code 558 = .ok (.iadd, 1) := by decide +kernel
theorem d_law_559 : decode code 559 = .ok (.iaload, 1) := by decide +kernel
theorem d_law_560 : decode code 560 = .ok (.i2l, 1) := by decide +kernel
theorem d_law_561 : decode code 561 = .ok (.ldc2_w 85, 3) := by decide +kernel
theorem d_law_564 : decode code 564 = .ok (.land, 1) := by decide +kernel
theorem d_law_565 : decode code 565 = .ok (.lor, 1) := by decide +kernel
theorem d_law_566 : decode code 566 = .ok (.invokevirtual 87, 3) := by decide +kernel
theorem d_law_569 : decode code 569 = .ok (.aload_n 2, 1) := by decide +kernel
theorem d_law_570 : decode code 570 = .ok (.aload_n 0, 1) := by decide +kernel
theorem d_law_571 : decode code 571 = .ok (.iload_n 3, 1) := by decide +kernel
theorem d_law_572 : decode code 572 = .ok (.iconst 1, 1) := by decide +kernel
theorem d_law_573 : decode code 573 = .ok (.iadd, 1) := by decide +kernel
theorem d_law_574 : decode code 574 = .ok (.iaload, 1) := by decide +kernel
theorem d_law_575 : decode code 575 = .ok (.i2l, 1) := by decide +kernel
theorem d_law_576 : decode code 576 = .ok (.bipush 32, 2) := by decide +kernel
theorem d_law_578 : decode code 578 = .ok (.lshl, 1) := by decide +kernel
theorem d_law_579 : decode code 579 = .ok (.aload_n 0, 1) := by decide +kernel
theorem d_law_580 : decode code 580 = .ok (.iload_n 3, 1) := by decide +kernel
theorem d_law_581 : decode code 581 = .ok (.iconst 2, 1) := by decide +kernel
theorem d_law_582 : decode code 582 = .ok (.iadd, 1) := by decide +kernel
theorem d_law_583 : decode code 583 = .ok (.iaload, 1) := by decide +kernel
theorem d_law_584 : decode code 584 = .ok (.i2l, 1) := by decide +kernel
theorem d_law_585 : decode code 585 = .ok (.ldc2_w 85, 3) := by decide +kernel
theorem d_law_588 : decode code 588 = .ok (.land, 1) := by decide +kernel
theorem d_law_589 : decode code 589 = .ok (.lor, 1) := by decide +kernel
theorem d_law_590 : decode code 590 = .ok (.invokevirtual 91, 3) := by decide +kernel
theorem d_law_593 : decode code 593 = .ok (.if_icmp .eq 103, 3) := by decide +kernel
theorem d_law_596 : decode code 596 = .ok (.iconst 0, 1) := by decide +kernel
theorem d_law_597 : decode code 597 = .ok (.ireturn, 1) := by decide +kernel
theorem d_law_598 : decode code 598 = .ok (.aload_n 1, 1) := by decide +kernel
theorem d_law_599 : decode code 599 = .ok (.invokevirtual 92, 3) := by decide +kernel
theorem d_law_602 : decode code 602 = .ok (.aload_n 2, 1) := by decide +kernel
theorem d_law_603 : decode code 603 = .ok (.invokevirtual 95, 3) := by decide +kernel
theorem d_law_606 : decode code 606 = .ok (.if_icmp .eq 90, 3) := by decide +kernel
theorem d_law_609 : decode code 609 = .ok (.iconst 0, 1) := by decide +kernel
theorem d_law_610 : decode code 610 = .ok (.ireturn, 1) := by decide +kernel
theorem d_law_611 : decode code 611 = .ok (.aload_n 1, 1) := by decide +kernel
theorem d_law_612 : decode code 612 = .ok (.invokevirtual 96, 3) := by decide +kernel
theorem d_law_615 : decode code 615 = .ok (.aload_n 2, 1) := by decide +kernel
theorem d_law_616 : decode code 616 = .ok (.invokevirtual 99, 3) := by decide +kernel
theorem d_law_619 : decode code 619 = .ok (.if_icmp .eq 77, 3) := by decide +kernel
theorem d_law_622 : decode code 622 = .ok (.iconst 0, 1) := by decide +kernel
theorem d_law_623 : decode code 623 = .ok (.ireturn, 1) := by decide +kernel
theorem d_law_624 : decode code 624 = .ok (.aload_n 1, 1) := by decide +kernel
theorem d_law_625 : decode code 625 = .ok (.invokevirtual 100, 3) := by decide +kernel
theorem d_law_628 : decode code 628 = .ok (.aload_n 2, 1) := by decide +kernel
theorem d_law_629 : decode code 629 = .ok (.invokevirtual 103, 3) := by decide +kernel
theorem d_law_632 : decode code 632 = .ok (.if_icmp .eq 64, 3) := by decide +kernel
theorem d_law_635 : decode code 635 = .ok (.iconst 0, 1) := by decide +kernel
theorem d_law_636 : decode code 636 = .ok (.ireturn, 1) := by decide +kernel
theorem d_law_637 : decode code 637 = .ok (.aload_n 1, 1) := by decide +kernel
theorem d_law_638 : decode code 638 = .ok (.invokevirtual 104, 3) := by decide +kernel
theorem d_law_641 : decode code 641 = .ok (.aload_n 2, 1) := by decide +kernel
theorem d_law_642 : decode code 642 = .ok (.invokevirtual 107, 3) := by decide +kernel
theorem d_law_645 : decode code 645 = .ok (.if_icmp .eq 51, 3) := by decide +kernel
theorem d_law_648 : decode code 648 = .ok (.iconst 0, 1) := by decide +kernel
theorem d_law_649 : decode code 649 = .ok (.ireturn, 1) := by decide +kernel
theorem d_law_650 : decode code 650 = .ok (.aload_n 1, 1) := by decide +kernel
theorem d_law_651 : decode code 651 = .ok (.aload_n 0, 1) := by decide +kernel
theorem d_law_652 : decode code 652 = .ok (.iload_n 3, 1) := by decide +kernel
theorem d_law_653 : decode code 653 = .ok (.iconst 1, 1) := by decide +kernel
theorem d_law_654 : decode code 654 = .ok (.iadd, 1) := by decide +kernel
theorem d_law_655 : decode code 655 = .ok (.iaload, 1) := by decide +kernel
theorem d_law_656 : decode code 656 = .ok (.invokevirtual 108, 3) := by decide +kernel
theorem d_law_659 : decode code 659 = .ok (.aload_n 2, 1) := by decide +kernel
theorem d_law_660 : decode code 660 = .ok (.aload_n 0, 1) := by decide +kernel
theorem d_law_661 : decode code 661 = .ok (.iload_n 3, 1) := by decide +kernel
theorem d_law_662 : decode code 662 = .ok (.iconst 1, 1) := by decide +kernel
theorem d_law_663 : decode code 663 = .ok (.iadd, 1) := by decide +kernel
theorem d_law_664 : decode code 664 = .ok (.iaload, 1) := by decide +kernel
theorem d_law_665 : decode code 665 = .ok (.invokevirtual 111, 3) := by decide +kernel
theorem d_law_668 : decode code 668 = .ok (.if_icmp .eq 28, 3) := by decide +kernel
theorem d_law_671 : decode code 671 = .ok (.iconst 0, 1) := by decide +kernel
theorem d_law_672 : decode code 672 = .ok (.ireturn, 1) := by decide +kernel
theorem d_law_673 : decode code 673 = .ok (.aload_n 1, 1) := by decide +kernel
theorem d_law_674 : decode code 674 = .ok (.aload_n 0, 1) := by decide +kernel
theorem d_law_675 : decode code 675 = .ok (.iload_n 3, 1) := by decide +kernel
theorem d_law_676 : decode code 676 = .ok (.iconst 1, 1) := by decide +kernel
theorem d_law_677 : decode code 677 = .ok (.iadd, 1) := by decide +kernel
theorem d_law_678 : decode code 678 = .ok (.iaload, 1) := by decide +kernel
theorem d_law_679 : decode code 679 = .ok (.invokevirtual 112, 3) := by decide +kernel
theorem d_law_682 : decode code 682 = .ok (.aload_n 2, 1) := by decide +kernel
theorem d_law_683 : decode code 683 = .ok (.aload_n 0, 1) := by decide +kernel
theorem d_law_684 : decode code 684 = .ok (.iload_n 3, 1) := by decide +kernel
theorem d_law_685 : decode code 685 = .ok (.iconst 1, 1) := by decide +kernel
theorem d_law_686 : decode code 686 = .ok (.iadd, 1) := by decide +kernel
theorem d_law_687 : decode code 687 = .ok (.iaload, 1) := by decide +kernel
theorem d_law_688 : decode code 688 = .ok (.invokevirtual 115, 3) := by decide +kernel
theorem d_law_691 : decode code 691 = .ok (.if_icmp .eq 5, 3) := by decide +kernel
theorem d_law_694 : decode code 694 = .ok (.iconst 0, 1) := by decide +kernel
theorem d_law_695 : decode code 695 = .ok (.ireturn, 1) := by decide +kernel
theorem d_law_696 : decode code 696 = .ok (.iinc 3 4, 3) := by decide +kernel
theorem d_law_699 : decode code 699 = .ok (.goto (-681), 3) := by decide +kernel
theorem d_law_702 : decode code 702 = .ok (.iconst 1, 1) := by decide +kernel
theorem d_law_703 : decode code 703 = .ok (.ireturn, 1) := by decide +kernel
theorem k_13 : (Jvm.Cond.classLink "FloodDiaryLaw" (7 : Nat) "FloodDiary") ∈ TB := TB_of 13 (by decide +kernel) rfl
theorem k_14 : (Jvm.Cond.instantiable "FloodDiary" (6 : Nat)) ∈ TB := TB_of 14 (by decide +kernel) rfl
theorem k_15 : (Jvm.Cond.methodLink "FloodDiaryLaw" (9 : Nat) ({ cls := "FloodDiary", name := "<init>", desc := "()V" } : Jvm.MethodName)) ∈ TB := TB_of 15 (by decide +kernel) rfl
theorem k_16 : (Jvm.Cond.instanceMethod ({ cls := "FloodDiary", name := "<init>", desc := "()V" } : Jvm.MethodName)) ∈ TB := TB_of 16 (by decide +kernel) rfl
theorem k_237 : (Jvm.Cond.methodLink "FloodDiaryLaw" (13 : Nat) ({ cls := "FloodDiary", name := "begin", desc := "()I" } : Jvm.MethodName)) ∈ TB := TB_of 237 (by decide +kernel) rfl
theorem k_302 : (Jvm.Cond.methodLink "FloodDiaryLaw" (18 : Nat) ({ cls := "FloodDiary", name := "write", desc := "(III)I" } : Jvm.MethodName)) ∈ TB := TB_of 302 (by decide +kernel) rfl
theorem k_358 : (Jvm.Cond.methodLink "FloodDiaryLaw" (23 : Nat) ({ cls := "FloodDiary", name := "finish", desc := "(I)I" } : Jvm.MethodName)) ∈ TB := TB_of 358 (by decide +kernel) rfl
theorem k_373 : (Jvm.Cond.methodLink "FloodDiaryLaw" (28 : Nat) ({ cls := "FloodDiary", name := "tea\x72", desc := "(I)I" } : Jvm.MethodName)) ∈ TB := TB_of 373 (by decide +kernel) rfl
theorem k_409 : (Jvm.Cond.methodLink "FloodDiaryLaw" (32 : Nat) ({ cls := "FloodDiary", name := "save", desc := "(I)I" } : Jvm.MethodName)) ∈ TB := TB_of 409 (by decide +kernel) rfl
theorem k_418 : (Jvm.Cond.methodLink "FloodDiaryLaw" (36 : Nat) ({ cls := "FloodDiary", name := "putAway", desc := "(I)I" } : Jvm.MethodName)) ∈ TB := TB_of 418 (by decide +kernel) rfl
theorem k_435 : (Jvm.Cond.methodLink "FloodDiaryLaw" (40 : Nat) ({ cls := "FloodDiary", name := "flood", desc := "()I" } : Jvm.MethodName)) ∈ TB := TB_of 435 (by decide +kernel) rfl
theorem k_473 : (Jvm.Cond.methodLink "FloodDiaryLaw" (44 : Nat) ({ cls := "FloodDiary", name := "blu\x72", desc := "(I)I" } : Jvm.MethodName)) ∈ TB := TB_of 473 (by decide +kernel) rfl
theorem k_486 : (Jvm.Cond.methodLink "FloodDiaryLaw" (48 : Nat) ({ cls := "FloodDiary", name := "mend", desc := "(I)I" } : Jvm.MethodName)) ∈ TB := TB_of 486 (by decide +kernel) rfl
theorem k_518 : (Jvm.Cond.methodLink "FloodDiaryLaw" (52 : Nat) ({ cls := "FloodDiary", name := "ofPage", desc := "(II)I" } : Jvm.MethodName)) ∈ TB := TB_of 518 (by decide +kernel) rfl
theorem k_541 : (Jvm.Cond.methodLink "FloodDiaryLaw" (57 : Nat) ({ cls := "FloodDiary", name := "ofWork", desc := "(II)I" } : Jvm.MethodName)) ∈ TB := TB_of 541 (by decide +kernel) rfl
theorem k_549 : (Jvm.Cond.methodLink "FloodDiaryLaw" (61 : Nat) ({ cls := "FloodDiary", name := "ofEntry", desc := "(II)I" } : Jvm.MethodName)) ∈ TB := TB_of 549 (by decide +kernel) rfl
theorem k_565 : (Jvm.Cond.methodLink "FloodDiaryLaw" (65 : Nat) ({ cls := "FloodDiary", name := "count", desc := "(I)I" } : Jvm.MethodName)) ∈ TB := TB_of 565 (by decide +kernel) rfl
theorem k_590 : (Jvm.Cond.methodLink "FloodDiaryLaw" (69 : Nat) ({ cls := "FloodDiary", name := "stepsToMend", desc := "()I" } : Jvm.MethodName)) ∈ TB := TB_of 590 (by decide +kernel) rfl
theorem k_599 : (Jvm.Cond.methodLink "FloodDiaryLaw" (73 : Nat) ({ cls := "FloodDiary", name := "wouldBe", desc := "(I)I" } : Jvm.MethodName)) ∈ TB := TB_of 599 (by decide +kernel) rfl
theorem k_606 : (Jvm.Cond.methodLink "FloodDiaryLaw" (77 : Nat) ({ cls := "FloodDiary", name := "firstNeeded", desc := "()I" } : Jvm.MethodName)) ∈ TB := TB_of 606 (by decide +kernel) rfl
theorem k_623 : (Jvm.Cond.methodLink "FloodDiaryLaw" (81 : Nat) ({ cls := "FloodDiary", name := "settled", desc := "(I)I" } : Jvm.MethodName)) ∈ TB := TB_of 623 (by decide +kernel) rfl
theorem k_631 : (Jvm.Cond.methodLink "FloodDiaryLaw" (87 : Nat) ({ cls := "FloodDiary", name := "put", desc := "(J)I" } : Jvm.MethodName)) ∈ TB := TB_of 631 (by decide +kernel) rfl
theorem k_648 : (Jvm.Cond.methodLink "FloodDiaryLaw" (92 : Nat) ({ cls := "FloodDiary", name := "wipe", desc := "()I" } : Jvm.MethodName)) ∈ TB := TB_of 648 (by decide +kernel) rfl
theorem k_656 : (Jvm.Cond.methodLink "FloodDiaryLaw" (96 : Nat) ({ cls := "FloodDiary", name := "fault", desc := "()I" } : Jvm.MethodName)) ∈ TB := TB_of 656 (by decide +kernel) rfl
theorem k_693 : (Jvm.Cond.methodLink "FloodDiaryLaw" (100 : Nat) ({ cls := "FloodDiary", name := "carryOut", desc := "()I" } : Jvm.MethodName)) ∈ TB := TB_of 693 (by decide +kernel) rfl
theorem k_713 : (Jvm.Cond.methodLink "FloodDiaryLaw" (104 : Nat) ({ cls := "FloodDiary", name := "undo", desc := "()I" } : Jvm.MethodName)) ∈ TB := TB_of 713 (by decide +kernel) rfl
theorem k_721 : (Jvm.Cond.methodLink "FloodDiaryLaw" (108 : Nat) ({ cls := "FloodDiary", name := "keep", desc := "(I)I" } : Jvm.MethodName)) ∈ TB := TB_of 721 (by decide +kernel) rfl
theorem k_735 : (Jvm.Cond.methodLink "FloodDiaryLaw" (112 : Nat) ({ cls := "FloodDiary", name := "bring", desc := "(I)I" } : Jvm.MethodName)) ∈ TB := TB_of 735 (by decide +kernel) rfl
theorem k_747 : (Jvm.Cond.classLink "FloodDiaryLaw" (10 : Nat) "FloodDiaryModel") ∈ TB := TB_of 747 (by decide +kernel) rfl
theorem k_748 : (Jvm.Cond.instantiable "FloodDiaryModel" (9 : Nat)) ∈ TB := TB_of 748 (by decide +kernel) rfl
theorem k_749 : (Jvm.Cond.methodLink "FloodDiaryLaw" (12 : Nat) ({ cls := "FloodDiaryModel", name := "<init>", desc := "()V" } : Jvm.MethodName)) ∈ TB := TB_of 749 (by decide +kernel) rfl
theorem k_750 : (Jvm.Cond.instanceMethod ({ cls := "FloodDiaryModel", name := "<init>", desc := "()V" } : Jvm.MethodName)) ∈ TB := TB_of 750 (by decide +kernel) rfl
theorem k_782 : (Jvm.Cond.methodLink "FloodDiaryLaw" (17 : Nat) ({ cls := "FloodDiaryModel", name := "begin", desc := "()I" } : Jvm.MethodName)) ∈ TB := TB_of 782 (by decide +kernel) rfl
theorem k_808 : (Jvm.Cond.methodLink "FloodDiaryLaw" (22 : Nat) ({ cls := "FloodDiaryModel", name := "write", desc := "(III)I" } : Jvm.MethodName)) ∈ TB := TB_of 808 (by decide +kernel) rfl
theorem k_844 : (Jvm.Cond.methodLink "FloodDiaryLaw" (27 : Nat) ({ cls := "FloodDiaryModel", name := "finish", desc := "(I)I" } : Jvm.MethodName)) ∈ TB := TB_of 844 (by decide +kernel) rfl
theorem k_857 : (Jvm.Cond.methodLink "FloodDiaryLaw" (31 : Nat) ({ cls := "FloodDiaryModel", name := "tea\x72", desc := "(I)I" } : Jvm.MethodName)) ∈ TB := TB_of 857 (by decide +kernel) rfl
theorem k_876 : (Jvm.Cond.methodLink "FloodDiaryLaw" (35 : Nat) ({ cls := "FloodDiaryModel", name := "save", desc := "(I)I" } : Jvm.MethodName)) ∈ TB := TB_of 876 (by decide +kernel) rfl
theorem k_883 : (Jvm.Cond.methodLink "FloodDiaryLaw" (39 : Nat) ({ cls := "FloodDiaryModel", name := "putAway", desc := "(I)I" } : Jvm.MethodName)) ∈ TB := TB_of 883 (by decide +kernel) rfl
theorem k_893 : (Jvm.Cond.methodLink "FloodDiaryLaw" (43 : Nat) ({ cls := "FloodDiaryModel", name := "flood", desc := "()I" } : Jvm.MethodName)) ∈ TB := TB_of 893 (by decide +kernel) rfl
theorem k_903 : (Jvm.Cond.methodLink "FloodDiaryLaw" (47 : Nat) ({ cls := "FloodDiaryModel", name := "blu\x72", desc := "(I)I" } : Jvm.MethodName)) ∈ TB := TB_of 903 (by decide +kernel) rfl
theorem k_908 : (Jvm.Cond.methodLink "FloodDiaryLaw" (51 : Nat) ({ cls := "FloodDiaryModel", name := "mend", desc := "(I)I" } : Jvm.MethodName)) ∈ TB := TB_of 908 (by decide +kernel) rfl
theorem k_927 : (Jvm.Cond.methodLink "FloodDiaryLaw" (56 : Nat) ({ cls := "FloodDiaryModel", name := "ofPage", desc := "(II)I" } : Jvm.MethodName)) ∈ TB := TB_of 927 (by decide +kernel) rfl
theorem k_935 : (Jvm.Cond.methodLink "FloodDiaryLaw" (60 : Nat) ({ cls := "FloodDiaryModel", name := "ofWork", desc := "(II)I" } : Jvm.MethodName)) ∈ TB := TB_of 935 (by decide +kernel) rfl
theorem k_939 : (Jvm.Cond.methodLink "FloodDiaryLaw" (64 : Nat) ({ cls := "FloodDiaryModel", name := "ofEntry", desc := "(II)I" } : Jvm.MethodName)) ∈ TB := TB_of 939 (by decide +kernel) rfl
theorem k_943 : (Jvm.Cond.methodLink "FloodDiaryLaw" (68 : Nat) ({ cls := "FloodDiaryModel", name := "count", desc := "(I)I" } : Jvm.MethodName)) ∈ TB := TB_of 943 (by decide +kernel) rfl
theorem k_947 : (Jvm.Cond.methodLink "FloodDiaryLaw" (72 : Nat) ({ cls := "FloodDiaryModel", name := "stepsToMend", desc := "()I" } : Jvm.MethodName)) ∈ TB := TB_of 947 (by decide +kernel) rfl
theorem k_955 : (Jvm.Cond.methodLink "FloodDiaryLaw" (76 : Nat) ({ cls := "FloodDiaryModel", name := "wouldBe", desc := "(I)I" } : Jvm.MethodName)) ∈ TB := TB_of 955 (by decide +kernel) rfl
theorem k_962 : (Jvm.Cond.methodLink "FloodDiaryLaw" (80 : Nat) ({ cls := "FloodDiaryModel", name := "firstNeeded", desc := "()I" } : Jvm.MethodName)) ∈ TB := TB_of 962 (by decide +kernel) rfl
theorem k_970 : (Jvm.Cond.methodLink "FloodDiaryLaw" (84 : Nat) ({ cls := "FloodDiaryModel", name := "settled", desc := "(I)I" } : Jvm.MethodName)) ∈ TB := TB_of 970 (by decide +kernel) rfl
theorem k_974 : (Jvm.Cond.methodLink "FloodDiaryLaw" (91 : Nat) ({ cls := "FloodDiaryModel", name := "put", desc := "(J)I" } : Jvm.MethodName)) ∈ TB := TB_of 974 (by decide +kernel) rfl
theorem k_981 : (Jvm.Cond.methodLink "FloodDiaryLaw" (95 : Nat) ({ cls := "FloodDiaryModel", name := "wipe", desc := "()I" } : Jvm.MethodName)) ∈ TB := TB_of 981 (by decide +kernel) rfl
theorem k_985 : (Jvm.Cond.methodLink "FloodDiaryLaw" (99 : Nat) ({ cls := "FloodDiaryModel", name := "fault", desc := "()I" } : Jvm.MethodName)) ∈ TB := TB_of 985 (by decide +kernel) rfl
theorem k_1007 : (Jvm.Cond.methodLink "FloodDiaryLaw" (103 : Nat) ({ cls := "FloodDiaryModel", name := "carryOut", desc := "()I" } : Jvm.MethodName)) ∈ TB := TB_of 1007 (by decide +kernel) rfl
theorem k_1016 : (Jvm.Cond.methodLink "FloodDiaryLaw" (107 : Nat) ({ cls := "FloodDiaryModel", name := "undo", desc := "()I" } : Jvm.MethodName)) ∈ TB := TB_of 1016 (by decide +kernel) rfl
theorem k_1020 : (Jvm.Cond.methodLink "FloodDiaryLaw" (111 : Nat) ({ cls := "FloodDiaryModel", name := "keep", desc := "(I)I" } : Jvm.MethodName)) ∈ TB := TB_of 1020 (by decide +kernel) rfl
theorem k_1024 : (Jvm.Cond.methodLink "FloodDiaryLaw" (115 : Nat) ({ cls := "FloodDiaryModel", name := "bring", desc := "(I)I" } : Jvm.MethodName)) ∈ TB := TB_of 1024 (by decide +kernel) rfl
theorem k_1028 : (Jvm.Cond.constantLong "FloodDiaryLaw" (85 : Nat) (4294967295 : Int64)) ∈ TB := TB_of 1028 (by decide +kernel) rfl
