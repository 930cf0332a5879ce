theorem dL_acts_0 : decode cL_acts 0 = .ok (.iload_n 1, 1) := by decide +kernel
theorem dL_acts_1 : decode cL_acts 1 = .ok (.bipush 12, 2) := by decide +kernel
theorem dL_acts_3 : decode cL_acts 3 = .ok (.invokestatic 78, 3) := by decide +kernel
theorem dL_acts_6 : decode cL_acts 6 = .ok (.tableswitch 650 0 8 #[50, 155, 249, 336, 336, 396, 454, 475, 589], 50) := by decide +kernel
theorem dL_acts_56 : decode cL_acts 56 = .ok (.iload_n 2, 1) := by decide +kernel
theorem dL_acts_57 : decode cL_acts 57 = .ok (.iconst 3, 1) := by decide +kernel
theorem dL_acts_58 : decode cL_acts 58 = .ok (.invokestatic 78, 3) := by decide +kernel
theorem dL_acts_61 : decode cL_acts 61 = .ok (.istore_n 3, 1) := by decide +kernel
theorem dL_acts_62 : decode cL_acts 62 = .ok (.iload_n 2, 1) := by decide +kernel
theorem dL_acts_63 : decode cL_acts 63 = .ok (.iconst 2, 1) := by decide +kernel
theorem dL_acts_64 : decode cL_acts 64 = .ok (.ishr, 1) := by decide +kernel
theorem dL_acts_65 : decode cL_acts 65 = .ok (.bipush 8, 2) := by decide +kernel
theorem dL_acts_67 : decode cL_acts 67 = .ok (.invokestatic 78, 3) := by decide +kernel
theorem dL_acts_70 : decode cL_acts 70 = .ok (.istore 4, 2) := by decide +kernel
theorem dL_acts_72 : decode cL_acts 72 = .ok (.iload 4, 2) := by decide +kernel
theorem dL_acts_74 : decode cL_acts 74 = .ok (.bipush 6, 2) := by decide +kernel
theorem dL_acts_76 : decode cL_acts 76 = .ok (.if_icmp .ge 21, 3) := by decide +kernel
theorem dL_acts_79 : decode cL_acts 79 = .ok (.aload_n 0, 1) := by decide +kernel
theorem dL_acts_80 : decode cL_acts 80 = .ok (.iload_n 3, 1) := by decide +kernel
theorem dL_acts_81 : decode cL_acts 81 = .ok (.invokevirtual 36, 3) := by decide +kernel
theorem dL_acts_84 : decode cL_acts 84 = .ok (.iload 4, 2) := by decide +kernel
theorem dL_acts_86 : decode cL_acts 86 = .ok (.invokestatic 81, 3) := by decide +kernel
theorem dL_acts_89 : decode cL_acts 89 = .ok (.fcmp .l, 1) := by decide +kernel
theorem dL_acts_90 : decode cL_acts 90 = .ok (.ifCond .ne 7, 3) := by decide +kernel
theorem dL_acts_93 : decode cL_acts 93 = .ok (.iconst 1, 1) := by decide +kernel
theorem dL_acts_94 : decode cL_acts 94 = .ok (.goto 4, 3) := by decide +kernel
theorem dL_acts_97 : decode cL_acts 97 = .ok (.iconst 0, 1) := by decide +kernel
theorem dL_acts_98 : decode cL_acts 98 = .ok (.istore 5, 2) := by decide +kernel
theorem dL_acts_100 : decode cL_acts 100 = .ok (.aload_n 0, 1) := by decide +kernel
theorem dL_acts_101 : decode cL_acts 101 = .ok (.iload_n 3, 1) := by decide +kernel
theorem dL_acts_102 : decode cL_acts 102 = .ok (.iload 4, 2) := by decide +kernel
theorem dL_acts_104 : decode cL_acts 104 = .ok (.invokestatic 84, 3) := by decide +kernel
theorem dL_acts_107 : decode cL_acts 107 = .ok (.invokevirtual 87, 3) := by decide +kernel
theorem dL_acts_110 : decode cL_acts 110 = .ok (.iload 4, 2) := by decide +kernel
theorem dL_acts_112 : decode cL_acts 112 = .ok (.iconst 5, 1) := by decide +kernel
theorem dL_acts_113 : decode cL_acts 113 = .ok (.if_icmp .le 8, 3) := by decide +kernel
theorem dL_acts_116 : decode cL_acts 116 = .ok (.bipush (-2), 2) := by decide +kernel
theorem dL_acts_118 : decode cL_acts 118 = .ok (.goto 14, 3) := by decide +kernel
theorem dL_acts_121 : decode cL_acts 121 = .ok (.iload 5, 2) := by decide +kernel
theorem dL_acts_123 : decode cL_acts 123 = .ok (.ifCond .eq 8, 3) := by decide +kernel
theorem dL_acts_126 : decode cL_acts 126 = .ok (.bipush (-5), 2) := by decide +kernel
theorem dL_acts_128 : decode cL_acts 128 = .ok (.goto 4, 3) := by decide +kernel
theorem dL_acts_131 : decode cL_acts 131 = .ok (.iconst 1, 1) := by decide +kernel
theorem dL_acts_132 : decode cL_acts 132 = .ok (.if_icmp .ne 27, 3) := by decide +kernel
theorem dL_acts_135 : decode cL_acts 135 = .ok (.iload 4, 2) := by decide +kernel
theorem dL_acts_137 : decode cL_acts 137 = .ok (.iconst 5, 1) := by decide +kernel
theorem dL_acts_138 : decode cL_acts 138 = .ok (.if_icmp .gt 17, 3) := by decide +kernel
theorem dL_acts_141 : decode cL_acts 141 = .ok (.aload_n 0, 1) := by decide +kernel
theorem dL_acts_142 : decode cL_acts 142 = .ok (.iload_n 3, 1) := by decide +kernel
theorem dL_acts_143 : decode cL_acts 143 = .ok (.invokevirtual 36, 3) := by decide +kernel
theorem dL_acts_146 : decode cL_acts 146 = .ok (.iload 4, 2) := by decide +kernel
theorem dL_acts_148 : decode cL_acts 148 = .ok (.invokestatic 81, 3) := by decide +kernel
theorem dL_acts_151 : decode cL_acts 151 = .ok (.fcmp .l, 1) := by decide +kernel
theorem dL_acts_152 : decode cL_acts 152 = .ok (.ifCond .ne 7, 3) := by decide +kernel
theorem dL_acts_155 : decode cL_acts 155 = .ok (.iconst 1, 1) := by decide +kernel
theorem dL_acts_156 : decode cL_acts 156 = .ok (.goto 4, 3) := by decide +kernel
theorem dL_acts_159 : decode cL_acts 159 = .ok (.iconst 0, 1) := by decide +kernel
theorem dL_acts_160 : decode cL_acts 160 = .ok (.ireturn, 1) := by decide +kernel
theorem dL_acts_161 : decode cL_acts 161 = .ok (.iload_n 2, 1) := by decide +kernel
theorem dL_acts_162 : decode cL_acts 162 = .ok (.iconst 4, 1) := by decide +kernel
theorem dL_acts_163 : decode cL_acts 163 = .ok (.invokestatic 78, 3) := by decide +kernel
theorem dL_acts_166 : decode cL_acts 166 = .ok (.istore_n 3, 1) := by decide +kernel
theorem dL_acts_167 : decode cL_acts 167 = .ok (.iload_n 2, 1) := by decide +kernel
theorem dL_acts_168 : decode cL_acts 168 = .ok (.iconst 2, 1) := by decide +kernel
theorem dL_acts_169 : decode cL_acts 169 = .ok (.ishr, 1) := by decide +kernel
theorem dL_acts_170 : decode cL_acts 170 = .ok (.iconst 5, 1) := by decide +kernel
theorem dL_acts_171 : decode cL_acts 171 = .ok (.invokestatic 78, 3) := by decide +kernel
theorem dL_acts_174 : decode cL_acts 174 = .ok (.istore 4, 2) := by decide +kernel
theorem dL_acts_176 : decode cL_acts 176 = .ok (.iload 4, 2) := by decide +kernel
theorem dL_acts_178 : decode cL_acts 178 = .ok (.iconst 3, 1) := by decide +kernel
theorem dL_acts_179 : decode cL_acts 179 = .ok (.if_icmp .eq 7, 3) := by decide +kernel
theorem dL_acts_182 : decode cL_acts 182 = .ok (.iconst 1, 1) := by decide +kernel
theorem dL_acts_183 : decode cL_acts 183 = .ok (.goto 4, 3) := by decide +kernel
theorem dL_acts_186 : decode cL_acts 186 = .ok (.iconst 0, 1) := by decide +kernel
theorem dL_acts_187 : decode cL_acts 187 = .ok (.istore 5, 2) := by decide +kernel
theorem dL_acts_189 : decode cL_acts 189 = .ok (.iload 5, 2) := by decide +kernel
theorem dL_acts_191 : decode cL_acts 191 = .ok (.ifCond .eq 21, 3) := by decide +kernel
theorem dL_acts_194 : decode cL_acts 194 = .ok (.aload_n 0, 1) := by decide +kernel
theorem dL_acts_195 : decode cL_acts 195 = .ok (.iload_n 3, 1) := by decide +kernel
theorem dL_acts_196 : decode cL_acts 196 = .ok (.invokevirtual 46, 3) := by decide +kernel
theorem dL_acts_199 : decode cL_acts 199 = .ok (.iload 4, 2) := by decide +kernel
theorem dL_acts_201 : decode cL_acts 201 = .ok (.invokestatic 81, 3) := by decide +kernel
theorem dL_acts_204 : decode cL_acts 204 = .ok (.fcmp .l, 1) := by decide +kernel
theorem dL_acts_205 : decode cL_acts 205 = .ok (.ifCond .ne 7, 3) := by decide +kernel
theorem dL_acts_208 : decode cL_acts 208 = .ok (.iconst 1, 1) := by decide +kernel
theorem dL_acts_209 : decode cL_acts 209 = .ok (.goto 4, 3) := by decide +kernel
theorem dL_acts_212 : decode cL_acts 212 = .ok (.iconst 0, 1) := by decide +kernel
theorem dL_acts_213 : decode cL_acts 213 = .ok (.istore 6, 2) := by decide +kernel
theorem dL_acts_215 : decode cL_acts 215 = .ok (.aload_n 0, 1) := by decide +kernel
theorem dL_acts_216 : decode cL_acts 216 = .ok (.iload_n 3, 1) := by decide +kernel
theorem dL_acts_217 : decode cL_acts 217 = .ok (.iload 4, 2) := by decide +kernel
theorem dL_acts_219 : decode cL_acts 219 = .ok (.invokestatic 84, 3) := by decide +kernel
theorem dL_acts_222 : decode cL_acts 222 = .ok (.invokevirtual 90, 3) := by decide +kernel
theorem dL_acts_225 : decode cL_acts 225 = .ok (.iload 5, 2) := by decide +kernel
theorem dL_acts_227 : decode cL_acts 227 = .ok (.ifCond .ne 8, 3) := by decide +kernel
theorem dL_acts_230 : decode cL_acts 230 = .ok (.bipush (-2), 2) := by decide +kernel
theorem dL_acts_232 : decode cL_acts 232 = .ok (.goto 14, 3) := by decide +kernel
theorem dL_acts_235 : decode cL_acts 235 = .ok (.iload 6, 2) := by decide +kernel
theorem dL_acts_237 : decode cL_acts 237 = .ok (.ifCond .eq 8, 3) := by decide +kernel
theorem dL_acts_240 : decode cL_acts 240 = .ok (.bipush (-5), 2) := by decide +kernel
theorem dL_acts_242 : decode cL_acts 242 = .ok (.goto 4, 3) := by decide +kernel
theorem dL_acts_245 : decode cL_acts 245 = .ok (.iconst 1, 1) := by decide +kernel
theorem dL_acts_246 : decode cL_acts 246 = .ok (.if_icmp .ne 7, 3) := by decide +kernel
theorem dL_acts_249 : decode cL_acts 249 = .ok (.iconst 1, 1) := by decide +kernel
theorem dL_acts_250 : decode cL_acts 250 = .ok (.goto 4, 3) := by decide +kernel
theorem dL_acts_253 : decode cL_acts 253 = .ok (.iconst 0, 1) := by decide +kernel
theorem dL_acts_254 : decode cL_acts 254 = .ok (.ireturn, 1) := by decide +kernel
theorem dL_acts_255 : decode cL_acts 255 = .ok (.iload_n 2, 1) := by decide +kernel
theorem dL_acts_256 : decode cL_acts 256 = .ok (.iconst 5, 1) := by decide +kernel
theorem dL_acts_257 : decode cL_acts 257 = .ok (.invokestatic 78, 3) := by decide +kernel
theorem dL_acts_260 : decode cL_acts 260 = .ok (.istore_n 3, 1) := by decide +kernel
theorem dL_acts_261 : decode cL_acts 261 = .ok (.iload_n 3, 1) := by decide +kernel
theorem dL_acts_262 : decode cL_acts 262 = .ok (.ifCond .ne 16, 3) := by decide +kernel
theorem dL_acts_265 : decode cL_acts 265 = .ok (.iconst 1, 1) := by decide +kernel
theorem dL_acts_266 : decode cL_acts 266 = .ok (.iload_n 2, 1) := by decide +kernel
theorem dL_acts_267 : decode cL_acts 267 = .ok (.iconst 3, 1) := by decide +kernel
theorem dL_acts_268 : decode cL_acts 268 = .ok (.ishr, 1) := by decide +kernel
theorem dL_acts_269 : decode cL_acts 269 = .ok (.bipush 6, 2) := by decide +kernel
theorem dL_acts_271 : decode cL_acts 271 = .ok (.invokestatic 78, 3) := by decide +kernel
theorem dL_acts_274 : decode cL_acts 274 = .ok (.iadd, 1) := by decide +kernel
theorem dL_acts_275 : decode cL_acts 275 = .ok (.goto 28, 3) := by decide +kernel
theorem dL_acts_278 : decode cL_acts 278 = .ok (.iload_n 3, 1) := by decide +kernel
theorem dL_acts_279 : decode cL_acts 279 = .ok (.iconst 4, 1) := by decide +kernel
theorem dL_acts_280 : decode cL_acts 280 = .ok (.if_icmp .ne 15, 3) := by decide +kernel
theorem dL_acts_283 : decode cL_acts 283 = .ok (.iconst 1, 1) := by decide +kernel
theorem dL_acts_284 : decode cL_acts 284 = .ok (.iload_n 2, 1) := by decide +kernel
theorem dL_acts_285 : decode cL_acts 285 = .ok (.iconst 3, 1) := by decide +kernel
theorem dL_acts_286 : decode cL_acts 286 = .ok (.ishr, 1) := by decide +kernel
theorem dL_acts_287 : decode cL_acts 287 = .ok (.iconst 4, 1) := by decide +kernel
theorem dL_acts_288 : decode cL_acts 288 = .ok (.invokestatic 78, 3) := by decide +kernel
theorem dL_acts_291 : decode cL_acts 291 = .ok (.iadd, 1) := by decide +kernel
theorem dL_acts_292 : decode cL_acts 292 = .ok (.goto 11, 3) := by decide +kernel
theorem dL_acts_295 : decode cL_acts 295 = .ok (.iload_n 2, 1) := by decide +kernel
theorem dL_acts_296 : decode cL_acts 296 = .ok (.iconst 3, 1) := by decide +kernel
theorem dL_acts_297 : decode cL_acts 297 = .ok (.ishr, 1) := by decide +kernel
theorem dL_acts_298 : decode cL_acts 298 = .ok (.bipush 6, 2) := by decide +kernel
theorem dL_acts_300 : decode cL_acts 300 = .ok (.invokestatic 78, 3) := by decide +kernel
theorem dL_acts_303 : decode cL_acts 303 = .ok (.istore 4, 2) := by decide +kernel
theorem dL_acts_305 : decode cL_acts 305 = .ok (.aload_n 0, 1) := by decide +kernel
theorem dL_acts_306 : decode cL_acts 306 = .ok (.iload_n 3, 1) := by decide +kernel
theorem dL_acts_307 : decode cL_acts 307 = .ok (.invokevirtual 33, 3) := by decide +kernel
theorem dL_acts_310 : decode cL_acts 310 = .ok (.istore 5, 2) := by decide +kernel
theorem dL_acts_312 : decode cL_acts 312 = .ok (.aload_n 0, 1) := by decide +kernel
theorem dL_acts_313 : decode cL_acts 313 = .ok (.iload_n 3, 1) := by decide +kernel
theorem dL_acts_314 : decode cL_acts 314 = .ok (.iload 4, 2) := by decide +kernel
theorem dL_acts_316 : decode cL_acts 316 = .ok (.invokevirtual 93, 3) := by decide +kernel
theorem dL_acts_319 : decode cL_acts 319 = .ok (.iload 5, 2) := by decide +kernel
theorem dL_acts_321 : decode cL_acts 321 = .ok (.iload 4, 2) := by decide +kernel
theorem dL_acts_323 : decode cL_acts 323 = .ok (.if_icmp .ne 8, 3) := by decide +kernel
theorem dL_acts_326 : decode cL_acts 326 = .ok (.bipush (-5), 2) := by decide +kernel
theorem dL_acts_328 : decode cL_acts 328 = .ok (.goto 5, 3) := by decide +kernel
theorem dL_acts_331 : decode cL_acts 331 = .ok (.iload 5, 2) := by decide +kernel
theorem dL_acts_333 : decode cL_acts 333 = .ok (.if_icmp .ne 7, 3) := by decide +kernel
theorem dL_acts_336 : decode cL_acts 336 = .ok (.iconst 1, 1) := by decide +kernel
theorem dL_acts_337 : decode cL_acts 337 = .ok (.goto 4, 3) := by decide +kernel
theorem dL_acts_340 : decode cL_acts 340 = .ok (.iconst 0, 1) := by decide +kernel
theorem dL_acts_341 : decode cL_acts 341 = .ok (.ireturn, 1) := by decide +kernel
theorem dL_acts_342 : decode cL_acts 342 = .ok (.aload_n 0, 1) := by decide +kernel
theorem dL_acts_343 : decode cL_acts 343 = .ok (.iconst 0, 1) := by decide +kernel
theorem dL_acts_344 : decode cL_acts 344 = .ok (.invokevirtual 22, 3) := by decide +kernel
theorem dL_acts_347 : decode cL_acts 347 = .ok (.istore_n 3, 1) := by decide +kernel
theorem dL_acts_348 : decode cL_acts 348 = .ok (.aload_n 0, 1) := by decide +kernel
theorem dL_acts_349 : decode cL_acts 349 = .ok (.invokevirtual 96, 3) := by decide +kernel
theorem dL_acts_352 : decode cL_acts 352 = .ok (.istore 4, 2) := by decide +kernel
theorem dL_acts_354 : decode cL_acts 354 = .ok (.iload 4, 2) := by decide +kernel
theorem dL_acts_356 : decode cL_acts 356 = .ok (.iload_n 3, 1) := by decide +kernel
theorem dL_acts_357 : decode cL_acts 357 = .ok (.iconst 1, 1) := by decide +kernel
theorem dL_acts_358 : decode cL_acts 358 = .ok (.if_icmp .ne 8, 3) := by decide +kernel
theorem dL_acts_361 : decode cL_acts 361 = .ok (.bipush (-4), 2) := by decide +kernel
theorem dL_acts_363 : decode cL_acts 363 = .ok (.goto 4, 3) := by decide +kernel
theorem dL_acts_366 : decode cL_acts 366 = .ok (.iload_n 3, 1) := by decide +kernel
theorem dL_acts_367 : decode cL_acts 367 = .ok (.if_icmp .ne 33, 3) := by decide +kernel
theorem dL_acts_370 : decode cL_acts 370 = .ok (.aload_n 0, 1) := by decide +kernel
theorem dL_acts_371 : decode cL_acts 371 = .ok (.iconst 0, 1) := by decide +kernel
theorem dL_acts_372 : decode cL_acts 372 = .ok (.invokevirtual 22, 3) := by decide +kernel
theorem dL_acts_375 : decode cL_acts 375 = .ok (.iload_n 3, 1) := by decide +kernel
theorem dL_acts_376 : decode cL_acts 376 = .ok (.iconst 2, 1) := by decide +kernel
theorem dL_acts_377 : decode cL_acts 377 = .ok (.if_icmp .ne 7, 3) := by decide +kernel
theorem dL_acts_380 : decode cL_acts 380 = .ok (.iconst 2, 1) := by decide +kernel
theorem dL_acts_381 : decode cL_acts 381 = .ok (.goto 4, 3) := by decide +kernel
theorem dL_acts_384 : decode cL_acts 384 = .ok (.iconst 1, 1) := by decide +kernel
theorem dL_acts_385 : decode cL_acts 385 = .ok (.if_icmp .ne 15, 3) := by decide +kernel
theorem dL_acts_388 : decode cL_acts 388 = .ok (.aload_n 0, 1) := by decide +kernel
theorem dL_acts_389 : decode cL_acts 389 = .ok (.iconst 3, 1) := by decide +kernel
theorem dL_acts_390 : decode cL_acts 390 = .ok (.invokevirtual 22, 3) := by decide +kernel
theorem dL_acts_393 : decode cL_acts 393 = .ok (.ifCond .ne 7, 3) := by decide +kernel
theorem dL_acts_396 : decode cL_acts 396 = .ok (.iconst 1, 1) := by decide +kernel
theorem dL_acts_397 : decode cL_acts 397 = .ok (.goto 4, 3) := by decide +kernel
theorem dL_acts_400 : decode cL_acts 400 = .ok (.iconst 0, 1) := by decide +kernel
theorem dL_acts_401 : decode cL_acts 401 = .ok (.ireturn, 1) := by decide +kernel
theorem dL_acts_402 : decode cL_acts 402 = .ok (.aload_n 0, 1) := by decide +kernel
theorem dL_acts_403 : decode cL_acts 403 = .ok (.iconst 1, 1) := by decide +kernel
theorem dL_acts_404 : decode cL_acts 404 = .ok (.invokevirtual 22, 3) := by decide +kernel
theorem dL_acts_407 : decode cL_acts 407 = .ok (.istore_n 3, 1) := by decide +kernel
theorem dL_acts_408 : decode cL_acts 408 = .ok (.aload_n 0, 1) := by decide +kernel
theorem dL_acts_409 : decode cL_acts 409 = .ok (.iconst 2, 1) := by decide +kernel
theorem dL_acts_410 : decode cL_acts 410 = .ok (.invokevirtual 22, 3) := by decide +kernel
theorem dL_acts_413 : decode cL_acts 413 = .ok (.istore 4, 2) := by decide +kernel
theorem dL_acts_415 : decode cL_acts 415 = .ok (.aload_n 0, 1) := by decide +kernel
theorem dL_acts_416 : decode cL_acts 416 = .ok (.invokevirtual 99, 3) := by decide +kernel
theorem dL_acts_419 : decode cL_acts 419 = .ok (.iload 4, 2) := by decide +kernel
theorem dL_acts_421 : decode cL_acts 421 = .ok (.ifCond .ne 8, 3) := by decide +kernel
theorem dL_acts_424 : decode cL_acts 424 = .ok (.bipush (-4), 2) := by decide +kernel
theorem dL_acts_426 : decode cL_acts 426 = .ok (.goto 4, 3) := by decide +kernel
theorem dL_acts_429 : decode cL_acts 429 = .ok (.iload_n 3, 1) := by decide +kernel
theorem dL_acts_430 : decode cL_acts 430 = .ok (.if_icmp .ne 28, 3) := by decide +kernel
theorem dL_acts_433 : decode cL_acts 433 = .ok (.aload_n 0, 1) := by decide +kernel
theorem dL_acts_434 : decode cL_acts 434 = .ok (.iconst 2, 1) := by decide +kernel
theorem dL_acts_435 : decode cL_acts 435 = .ok (.invokevirtual 22, 3) := by decide +kernel
theorem dL_acts_438 : decode cL_acts 438 = .ok (.ifCond .ne 20, 3) := by decide +kernel
theorem dL_acts_441 : decode cL_acts 441 = .ok (.iload 4, 2) := by decide +kernel
theorem dL_acts_443 : decode cL_acts 443 = .ok (.ifCond .eq 11, 3) := by decide +kernel
theorem dL_acts_446 : decode cL_acts 446 = .ok (.aload_n 0, 1) := by decide +kernel
theorem dL_acts_447 : decode cL_acts 447 = .ok (.iconst 1, 1) := by decide +kernel
theorem dL_acts_448 : decode cL_acts 448 = .ok (.invokevirtual 22, 3) := by decide +kernel
theorem dL_acts_451 : decode cL_acts 451 = .ok (.ifCond .ne 7, 3) := by decide +kernel
theorem dL_acts_454 : decode cL_acts 454 = .ok (.iconst 1, 1) := by decide +kernel
theorem dL_acts_455 : decode cL_acts 455 = .ok (.goto 4, 3) := by decide +kernel
theorem dL_acts_458 : decode cL_acts 458 = .ok (.iconst 0, 1) := by decide +kernel
theorem dL_acts_459 : decode cL_acts 459 = .ok (.ireturn, 1) := by decide +kernel
theorem dL_acts_460 : decode cL_acts 460 = .ok (.iload_n 2, 1) := by decide +kernel
theorem dL_acts_461 : decode cL_acts 461 = .ok (.iconst 4, 1) := by decide +kernel
theorem dL_acts_462 : decode cL_acts 462 = .ok (.invokestatic 78, 3) := by decide +kernel
theorem dL_acts_465 : decode cL_acts 465 = .ok (.ifCond .gt 10, 3) := by decide +kernel
theorem dL_acts_468 : decode cL_acts 468 = .ok (.aload_n 0, 1) := by decide +kernel
theorem dL_acts_469 : decode cL_acts 469 = .ok (.invokestatic 102, 3) := by decide +kernel
theorem dL_acts_472 : decode cL_acts 472 = .ok (.ifCond .eq 7, 3) := by decide +kernel
theorem dL_acts_475 : decode cL_acts 475 = .ok (.iconst 1, 1) := by decide +kernel
theorem dL_acts_476 : decode cL_acts 476 = .ok (.goto 4, 3) := by decide +kernel
theorem dL_acts_479 : decode cL_acts 479 = .ok (.iconst 0, 1) := by decide +kernel
theorem dL_acts_480 : decode cL_acts 480 = .ok (.ireturn, 1) := by decide +kernel
theorem dL_acts_481 : decode cL_acts 481 = .ok (.aload_n 0, 1) := by decide +kernel
theorem dL_acts_482 : decode cL_acts 482 = .ok (.iconst 0, 1) := by decide +kernel
theorem dL_acts_483 : decode cL_acts 483 = .ok (.invokevirtual 52, 3) := by decide +kernel
theorem dL_acts_486 : decode cL_acts 486 = .ok (.istore_n 3, 1) := by decide +kernel
theorem dL_acts_487 : decode cL_acts 487 = .ok (.aload_n 0, 1) := by decide +kernel
theorem dL_acts_488 : decode cL_acts 488 = .ok (.invokevirtual 105, 3) := by decide +kernel
theorem dL_acts_491 : decode cL_acts 491 = .ok (.pop, 1) := by decide +kernel
theorem dL_acts_492 : decode cL_acts 492 = .ok (.aload_n 0, 1) := by decide +kernel
theorem dL_acts_493 : decode cL_acts 493 = .ok (.bipush 48, 2) := by decide +kernel
theorem dL_acts_495 : decode cL_acts 495 = .ok (.iload_n 2, 1) := by decide +kernel
theorem dL_acts_496 : decode cL_acts 496 = .ok (.bipush 8, 2) := by decide +kernel
theorem dL_acts_498 : decode cL_acts 498 = .ok (.invokestatic 78, 3) := by decide +kernel
theorem dL_acts_501 : decode cL_acts 501 = .ok (.iadd, 1) := by decide +kernel
theorem dL_acts_502 : decode cL_acts 502 = .ok (.i2c, 1) := by decide +kernel
theorem dL_acts_503 : decode cL_acts 503 = .ok (.invokevirtual 108, 3) := by decide +kernel
theorem dL_acts_506 : decode cL_acts 506 = .ok (.pop, 1) := by decide +kernel
theorem dL_acts_507 : decode cL_acts 507 = .ok (.aload_n 0, 1) := by decide +kernel
theorem dL_acts_508 : decode cL_acts 508 = .ok (.bipush 42, 2) := by decide +kernel
theorem dL_acts_510 : decode cL_acts 510 = .ok (.invokevirtual 108, 3) := by decide +kernel
theorem dL_acts_513 : decode cL_acts 513 = .ok (.pop, 1) := by decide +kernel
theorem dL_acts_514 : decode cL_acts 514 = .ok (.aload_n 0, 1) := by decide +kernel
theorem dL_acts_515 : decode cL_acts 515 = .ok (.bipush 49, 2) := by decide +kernel
theorem dL_acts_517 : decode cL_acts 517 = .ok (.iload_n 2, 1) := by decide +kernel
theorem dL_acts_518 : decode cL_acts 518 = .ok (.iconst 3, 1) := by decide +kernel
theorem dL_acts_519 : decode cL_acts 519 = .ok (.ishr, 1) := by decide +kernel
theorem dL_acts_520 : decode cL_acts 520 = .ok (.bipush 9, 2) := by decide +kernel
theorem dL_acts_522 : decode cL_acts 522 = .ok (.invokestatic 78, 3) := by decide +kernel
theorem dL_acts_525 : decode cL_acts 525 = .ok (.iadd, 1) := by decide +kernel
theorem dL_acts_526 : decode cL_acts 526 = .ok (.i2c, 1) := by decide +kernel
theorem dL_acts_527 : decode cL_acts 527 = .ok (.invokevirtual 108, 3) := by decide +kernel
theorem dL_acts_530 : decode cL_acts 530 = .ok (.pop, 1) := by decide +kernel
theorem dL_acts_531 : decode cL_acts 531 = .ok (.aload_n 0, 1) := by decide +kernel
theorem dL_acts_532 : decode cL_acts 532 = .ok (.bipush 44, 2) := by decide +kernel
theorem dL_acts_534 : decode cL_acts 534 = .ok (.invokevirtual 108, 3) := by decide +kernel
theorem dL_acts_537 : decode cL_acts 537 = .ok (.pop, 1) := by decide +kernel
theorem dL_acts_538 : decode cL_acts 538 = .ok (.aload_n 0, 1) := by decide +kernel
theorem dL_acts_539 : decode cL_acts 539 = .ok (.bipush 48, 2) := by decide +kernel
theorem dL_acts_541 : decode cL_acts 541 = .ok (.iload_n 2, 1) := by decide +kernel
theorem dL_acts_542 : decode cL_acts 542 = .ok (.bipush 7, 2) := by decide +kernel
theorem dL_acts_544 : decode cL_acts 544 = .ok (.ishr, 1) := by decide +kernel
theorem dL_acts_545 : decode cL_acts 545 = .ok (.bipush 8, 2) := by decide +kernel
theorem dL_acts_547 : decode cL_acts 547 = .ok (.invokestatic 78, 3) := by decide +kernel
theorem dL_acts_550 : decode cL_acts 550 = .ok (.iadd, 1) := by decide +kernel
theorem dL_acts_551 : decode cL_acts 551 = .ok (.i2c, 1) := by decide +kernel
theorem dL_acts_552 : decode cL_acts 552 = .ok (.invokevirtual 108, 3) := by decide +kernel
theorem dL_acts_555 : decode cL_acts 555 = .ok (.pop, 1) := by decide +kernel
theorem dL_acts_556 : decode cL_acts 556 = .ok (.iconst 2, 1) := by decide +kernel
theorem dL_acts_557 : decode cL_acts 557 = .ok (.iload_n 2, 1) := by decide +kernel
theorem dL_acts_558 : decode cL_acts 558 = .ok (.iconst 3, 1) := by decide +kernel
theorem dL_acts_559 : decode cL_acts 559 = .ok (.ishr, 1) := by decide +kernel
theorem dL_acts_560 : decode cL_acts 560 = .ok (.bipush 9, 2) := by decide +kernel
theorem dL_acts_562 : decode cL_acts 562 = .ok (.invokestatic 78, 3) := by decide +kernel
theorem dL_acts_565 : decode cL_acts 565 = .ok (.iadd, 1) := by decide +kernel
theorem dL_acts_566 : decode cL_acts 566 = .ok (.istore 4, 2) := by decide +kernel
theorem dL_acts_568 : decode cL_acts 568 = .ok (.aload_n 0, 1) := by decide +kernel
theorem dL_acts_569 : decode cL_acts 569 = .ok (.invokevirtual 112, 3) := by decide +kernel
theorem dL_acts_572 : decode cL_acts 572 = .ok (.iload 4, 2) := by decide +kernel
theorem dL_acts_574 : decode cL_acts 574 = .ok (.if_icmp .ne 19, 3) := by decide +kernel
theorem dL_acts_577 : decode cL_acts 577 = .ok (.aload_n 0, 1) := by decide +kernel
theorem dL_acts_578 : decode cL_acts 578 = .ok (.iconst 0, 1) := by decide +kernel
theorem dL_acts_579 : decode cL_acts 579 = .ok (.invokevirtual 52, 3) := by decide +kernel
theorem dL_acts_582 : decode cL_acts 582 = .ok (.iload_n 3, 1) := by decide +kernel
theorem dL_acts_583 : decode cL_acts 583 = .ok (.iload 4, 2) := by decide +kernel
theorem dL_acts_585 : decode cL_acts 585 = .ok (.iadd, 1) := by decide +kernel
theorem dL_acts_586 : decode cL_acts 586 = .ok (.if_icmp .ne 7, 3) := by decide +kernel
theorem dL_acts_589 : decode cL_acts 589 = .ok (.iconst 1, 1) := by decide +kernel
theorem dL_acts_590 : decode cL_acts 590 = .ok (.goto 4, 3) := by decide +kernel
theorem dL_acts_593 : decode cL_acts 593 = .ok (.iconst 0, 1) := by decide +kernel
theorem dL_acts_594 : decode cL_acts 594 = .ok (.ireturn, 1) := by decide +kernel
theorem dL_acts_595 : decode cL_acts 595 = .ok (.iconst 1, 1) := by decide +kernel
theorem dL_acts_596 : decode cL_acts 596 = .ok (.iload_n 2, 1) := by decide +kernel
theorem dL_acts_597 : decode cL_acts 597 = .ok (.bipush 12, 2) := by decide +kernel
theorem dL_acts_599 : decode cL_acts 599 = .ok (.invokestatic 78, 3) := by decide +kernel
theorem dL_acts_602 : decode cL_acts 602 = .ok (.iadd, 1) := by decide +kernel
theorem dL_acts_603 : decode cL_acts 603 = .ok (.istore_n 3, 1) := by decide +kernel
theorem dL_acts_604 : decode cL_acts 604 = .ok (.aload_n 0, 1) := by decide +kernel
theorem dL_acts_605 : decode cL_acts 605 = .ok (.iconst 0, 1) := by decide +kernel
theorem dL_acts_606 : decode cL_acts 606 = .ok (.invokevirtual 52, 3) := by decide +kernel
theorem dL_acts_609 : decode cL_acts 609 = .ok (.istore 4, 2) := by decide +kernel
theorem dL_acts_611 : decode cL_acts 611 = .ok (.aload_n 0, 1) := by decide +kernel
theorem dL_acts_612 : decode cL_acts 612 = .ok (.iconst 0, 1) := by decide +kernel
theorem dL_acts_613 : decode cL_acts 613 = .ok (.iload_n 3, 1) := by decide +kernel
theorem dL_acts_614 : decode cL_acts 614 = .ok (.invokevirtual 67, 3) := by decide +kernel
theorem dL_acts_617 : decode cL_acts 617 = .ok (.fstore 5, 2) := by decide +kernel
theorem dL_acts_619 : decode cL_acts 619 = .ok (.aload_n 0, 1) := by decide +kernel
theorem dL_acts_620 : decode cL_acts 620 = .ok (.iconst 0, 1) := by decide +kernel
theorem dL_acts_621 : decode cL_acts 621 = .ok (.iload_n 3, 1) := by decide +kernel
theorem dL_acts_622 : decode cL_acts 622 = .ok (.invokevirtual 71, 3) := by decide +kernel
theorem dL_acts_625 : decode cL_acts 625 = .ok (.ifCond .lt 29, 3) := by decide +kernel
theorem dL_acts_628 : decode cL_acts 628 = .ok (.aload_n 0, 1) := by decide +kernel
theorem dL_acts_629 : decode cL_acts 629 = .ok (.invokevirtual 28, 3) := by decide +kernel
theorem dL_acts_632 : decode cL_acts 632 = .ok (.fload 5, 2) := by decide +kernel
theorem dL_acts_634 : decode cL_acts 634 = .ok (.fcmp .l, 1) := by decide +kernel
theorem dL_acts_635 : decode cL_acts 635 = .ok (.ifCond .ne 19, 3) := by decide +kernel
theorem dL_acts_638 : decode cL_acts 638 = .ok (.aload_n 0, 1) := by decide +kernel
theorem dL_acts_639 : decode cL_acts 639 = .ok (.iconst 0, 1) := by decide +kernel
theorem dL_acts_640 : decode cL_acts 640 = .ok (.invokevirtual 52, 3) := by decide +kernel
theorem dL_acts_643 : decode cL_acts 643 = .ok (.iload 4, 2) := by decide +kernel
theorem dL_acts_645 : decode cL_acts 645 = .ok (.iload_n 3, 1) := by decide +kernel
theorem dL_acts_646 : decode cL_acts 646 = .ok (.iadd, 1) := by decide +kernel
theorem dL_acts_647 : decode cL_acts 647 = .ok (.if_icmp .ne 7, 3) := by decide +kernel
theorem dL_acts_650 : decode cL_acts 650 = .ok (.iconst 1, 1) := by decide +kernel
theorem dL_acts_651 : decode cL_acts 651 = .ok (.goto 4, 3) := by decide +kernel
theorem dL_acts_654 : decode cL_acts 654 = .ok (.iconst 0, 1) := by decide +kernel
theorem dL_acts_655 : decode cL_acts 655 = .ok (.ireturn, 1) := by decide +kernel
theorem dL_acts_656 : decode cL_acts 656 = .ok (.aload_n 0, 1) := by decide +kernel
theorem dL_acts_657 : decode cL_acts 657 = .ok (.iload_n 2, 1) := by decide +kernel
theorem dL_acts_658 : decode cL_acts 658 = .ok (.iconst 3, 1) := by decide +kernel
theorem dL_acts_659 : decode cL_acts 659 = .ok (.invokestatic 78, 3) := by decide +kernel
theorem dL_acts_662 : decode cL_acts 662 = .ok (.ifCond .ne 14, 3) := by decide +kernel
theorem dL_acts_665 : decode cL_acts 665 = .ok (.iload_n 2, 1) := by decide +kernel
theorem dL_acts_666 : decode cL_acts 666 = .ok (.iconst 2, 1) := by decide +kernel
theorem dL_acts_667 : decode cL_acts 667 = .ok (.ishr, 1) := by decide +kernel
theorem dL_acts_668 : decode cL_acts 668 = .ok (.bipush 8, 2) := by decide +kernel
theorem dL_acts_670 : decode cL_acts 670 = .ok (.invokestatic 78, 3) := by decide +kernel
theorem dL_acts_673 : decode cL_acts 673 = .ok (.goto 4, 3) := by decide +kernel
theorem dL_acts_676 : decode cL_acts 676 = .ok (.iconst 0, 1) := by decide +kernel
theorem dL_acts_677 : decode cL_acts 677 = .ok (.invokestatic 115, 3) := by decide +kernel
theorem dL_acts_680 : decode cL_acts 680 = .ok (.ireturn, 1) := by decide +kernel
