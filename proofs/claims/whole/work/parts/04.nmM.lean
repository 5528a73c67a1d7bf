theorem dX11_init_0 : decode cX11_init 0 = .ok (.aload_n 0, 1) := by decide +kernel
theorem dX11_init_1 : decode cX11_init 1 = .ok (.invokespecial 1, 3) := by decide +kernel
theorem dX11_init_4 : decode cX11_init 4 = .ok (.aload_n 0, 1) := by decide +kernel
theorem dX11_init_5 : decode cX11_init 5 = .ok (.bipush 6, 2) := by decide +kernel
theorem dX11_init_7 : decode cX11_init 7 = .ok (.newarray .int, 2) := by decide +kernel
theorem dX11_init_9 : decode cX11_init 9 = .ok (.putfield 7, 3) := by decide +kernel
theorem dX11_init_12 : decode cX11_init 12 = .ok (.aload_n 0, 1) := by decide +kernel
theorem dX11_init_13 : decode cX11_init 13 = .ok (.lconst 1, 1) := by decide +kernel
theorem dX11_init_14 : decode cX11_init 14 = .ok (.putfield 13, 3) := by decide +kernel
theorem dX11_init_17 : decode cX11_init 17 = .ok (.aload_n 0, 1) := by decide +kernel
theorem dX11_init_18 : decode cX11_init 18 = .ok (.bipush 6, 2) := by decide +kernel
theorem dX11_init_20 : decode cX11_init 20 = .ok (.newarray .int, 2) := by decide +kernel
theorem dX11_init_22 : decode cX11_init 22 = .ok (.putfield 17, 3) := by decide +kernel
theorem dX11_init_25 : decode cX11_init 25 = .ok (.aload_n 0, 1) := by decide +kernel
theorem dX11_init_26 : decode cX11_init 26 = .ok (.sipush 288, 3) := by decide +kernel
theorem dX11_init_29 : decode cX11_init 29 = .ok (.newarray .int, 2) := by decide +kernel
theorem dX11_init_31 : decode cX11_init 31 = .ok (.putfield 20, 3) := by decide +kernel
theorem dX11_init_34 : decode cX11_init 34 = .ok (.aload_n 0, 1) := by decide +kernel
theorem dX11_init_35 : decode cX11_init 35 = .ok (.bipush 48, 2) := by decide +kernel
theorem dX11_init_37 : decode cX11_init 37 = .ok (.newarray .int, 2) := by decide +kernel
theorem dX11_init_39 : decode cX11_init 39 = .ok (.putfield 23, 3) := by decide +kernel
theorem dX11_init_42 : decode cX11_init 42 = .ok (.aload_n 0, 1) := by decide +kernel
theorem dX11_init_43 : decode cX11_init 43 = .ok (.bipush 6, 2) := by decide +kernel
theorem dX11_init_45 : decode cX11_init 45 = .ok (.newarray .int, 2) := by decide +kernel
theorem dX11_init_47 : decode cX11_init 47 = .ok (.putfield 26, 3) := by decide +kernel
theorem dX11_init_50 : decode cX11_init 50 = .ok (.aload_n 0, 1) := by decide +kernel
theorem dX11_init_51 : decode cX11_init 51 = .ok (.sipush 240, 3) := by decide +kernel
theorem dX11_init_54 : decode cX11_init 54 = .ok (.newarray .int, 2) := by decide +kernel
theorem dX11_init_56 : decode cX11_init 56 = .ok (.putfield 29, 3) := by decide +kernel
theorem dX11_init_59 : decode cX11_init 59 = .ok (.aload_n 0, 1) := by decide +kernel
theorem dX11_init_60 : decode cX11_init 60 = .ok (.bipush 40, 2) := by decide +kernel
theorem dX11_init_62 : decode cX11_init 62 = .ok (.newarray .int, 2) := by decide +kernel
theorem dX11_init_64 : decode cX11_init 64 = .ok (.putfield 32, 3) := by decide +kernel
theorem dX11_init_67 : decode cX11_init 67 = .ok (.aload_n 0, 1) := by decide +kernel
theorem dX11_init_68 : decode cX11_init 68 = .ok (.bipush 40, 2) := by decide +kernel
theorem dX11_init_70 : decode cX11_init 70 = .ok (.newarray .int, 2) := by decide +kernel
theorem dX11_init_72 : decode cX11_init 72 = .ok (.putfield 35, 3) := by decide +kernel
theorem dX11_init_75 : decode cX11_init 75 = .ok (.aload_n 0, 1) := by decide +kernel
theorem dX11_init_76 : decode cX11_init 76 = .ok (.bipush 8, 2) := by decide +kernel
theorem dX11_init_78 : decode cX11_init 78 = .ok (.newarray .int, 2) := by decide +kernel
theorem dX11_init_80 : decode cX11_init 80 = .ok (.putfield 38, 3) := by decide +kernel
theorem dX11_init_83 : decode cX11_init 83 = .ok (.aload_n 0, 1) := by decide +kernel
theorem dX11_init_84 : decode cX11_init 84 = .ok (.bipush 8, 2) := by decide +kernel
theorem dX11_init_86 : decode cX11_init 86 = .ok (.newarray .int, 2) := by decide +kernel
theorem dX11_init_88 : decode cX11_init 88 = .ok (.putfield 41, 3) := by decide +kernel
theorem dX11_init_91 : decode cX11_init 91 = .ok (.aload_n 0, 1) := by decide +kernel
theorem dX11_init_92 : decode cX11_init 92 = .ok (.bipush 8, 2) := by decide +kernel
theorem dX11_init_94 : decode cX11_init 94 = .ok (.newarray .int, 2) := by decide +kernel
theorem dX11_init_96 : decode cX11_init 96 = .ok (.putfield 44, 3) := by decide +kernel
theorem dX11_init_99 : decode cX11_init 99 = .ok (.aload_n 0, 1) := by decide +kernel
theorem dX11_init_100 : decode cX11_init 100 = .ok (.bipush 8, 2) := by decide +kernel
theorem dX11_init_102 : decode cX11_init 102 = .ok (.newarray .int, 2) := by decide +kernel
theorem dX11_init_104 : decode cX11_init 104 = .ok (.putfield 47, 3) := by decide +kernel
theorem dX11_init_107 : decode cX11_init 107 = .ok (.aload_n 0, 1) := by decide +kernel
theorem dX11_init_108 : decode cX11_init 108 = .ok (.bipush 8, 2) := by decide +kernel
theorem dX11_init_110 : decode cX11_init 110 = .ok (.newarray .int, 2) := by decide +kernel
theorem dX11_init_112 : decode cX11_init 112 = .ok (.putfield 50, 3) := by decide +kernel
theorem dX11_init_115 : decode cX11_init 115 = .ok (.aload_n 0, 1) := by decide +kernel
theorem dX11_init_116 : decode cX11_init 116 = .ok (.bipush 8, 2) := by decide +kernel
theorem dX11_init_118 : decode cX11_init 118 = .ok (.newarray .int, 2) := by decide +kernel
theorem dX11_init_120 : decode cX11_init 120 = .ok (.putfield 53, 3) := by decide +kernel
theorem dX11_init_123 : decode cX11_init 123 = .ok (.aload_n 0, 1) := by decide +kernel
theorem dX11_init_124 : decode cX11_init 124 = .ok (.bipush 8, 2) := by decide +kernel
theorem dX11_init_126 : decode cX11_init 126 = .ok (.newarray .int, 2) := by decide +kernel
theorem dX11_init_128 : decode cX11_init 128 = .ok (.putfield 56, 3) := by decide +kernel
theorem dX11_init_131 : decode cX11_init 131 = .ok (.aload_n 0, 1) := by decide +kernel
theorem dX11_init_132 : decode cX11_init 132 = .ok (.bipush 8, 2) := by decide +kernel
theorem dX11_init_134 : decode cX11_init 134 = .ok (.newarray .int, 2) := by decide +kernel
theorem dX11_init_136 : decode cX11_init 136 = .ok (.putfield 59, 3) := by decide +kernel
theorem dX11_init_139 : decode cX11_init 139 = .ok (.aload_n 0, 1) := by decide +kernel
theorem dX11_init_140 : decode cX11_init 140 = .ok (.bipush 8, 2) := by decide +kernel
theorem dX11_init_142 : decode cX11_init 142 = .ok (.newarray .int, 2) := by decide +kernel
theorem dX11_init_144 : decode cX11_init 144 = .ok (.putfield 62, 3) := by decide +kernel
theorem dX11_init_147 : decode cX11_init 147 = .ok (.aload_n 0, 1) := by decide +kernel
theorem dX11_init_148 : decode cX11_init 148 = .ok (.bipush 8, 2) := by decide +kernel
theorem dX11_init_150 : decode cX11_init 150 = .ok (.newarray .int, 2) := by decide +kernel
theorem dX11_init_152 : decode cX11_init 152 = .ok (.putfield 65, 3) := by decide +kernel
theorem dX11_init_155 : decode cX11_init 155 = .ok (.aload_n 0, 1) := by decide +kernel
theorem dX11_init_156 : decode cX11_init 156 = .ok (.bipush 8, 2) := by decide +kernel
theorem dX11_init_158 : decode cX11_init 158 = .ok (.newarray .int, 2) := by decide +kernel
theorem dX11_init_160 : decode cX11_init 160 = .ok (.putfield 68, 3) := by decide +kernel
theorem dX11_init_163 : decode cX11_init 163 = .ok (.aload_n 0, 1) := by decide +kernel
theorem dX11_init_164 : decode cX11_init 164 = .ok (.bipush 8, 2) := by decide +kernel
theorem dX11_init_166 : decode cX11_init 166 = .ok (.newarray .int, 2) := by decide +kernel
theorem dX11_init_168 : decode cX11_init 168 = .ok (.putfield 71, 3) := by decide +kernel
theorem dX11_init_171 : decode cX11_init 171 = .ok (.aload_n 0, 1) := by decide +kernel
theorem dX11_init_172 : decode cX11_init 172 = .ok (.bipush 8, 2) := by decide +kernel
theorem dX11_init_174 : decode cX11_init 174 = .ok (.newarray .int, 2) := by decide +kernel
theorem dX11_init_176 : decode cX11_init 176 = .ok (.putfield 74, 3) := by decide +kernel
theorem dX11_init_179 : decode cX11_init 179 = .ok (.aload_n 0, 1) := by decide +kernel
theorem dX11_init_180 : decode cX11_init 180 = .ok (.bipush 32, 2) := by decide +kernel
theorem dX11_init_182 : decode cX11_init 182 = .ok (.newarray .int, 2) := by decide +kernel
theorem dX11_init_184 : decode cX11_init 184 = .ok (.putfield 77, 3) := by decide +kernel
theorem dX11_init_187 : decode cX11_init 187 = .ok (.aload_n 0, 1) := by decide +kernel
theorem dX11_init_188 : decode cX11_init 188 = .ok (.bipush 32, 2) := by decide +kernel
theorem dX11_init_190 : decode cX11_init 190 = .ok (.newarray .int, 2) := by decide +kernel
theorem dX11_init_192 : decode cX11_init 192 = .ok (.putfield 80, 3) := by decide +kernel
theorem dX11_init_195 : decode cX11_init 195 = .ok (.aload_n 0, 1) := by decide +kernel
theorem dX11_init_196 : decode cX11_init 196 = .ok (.bipush 8, 2) := by decide +kernel
theorem dX11_init_198 : decode cX11_init 198 = .ok (.newarray .int, 2) := by decide +kernel
theorem dX11_init_200 : decode cX11_init 200 = .ok (.putfield 83, 3) := by decide +kernel
theorem dX11_init_203 : decode cX11_init 203 = .ok (.aload_n 0, 1) := by decide +kernel
theorem dX11_init_204 : decode cX11_init 204 = .ok (.bipush 32, 2) := by decide +kernel
theorem dX11_init_206 : decode cX11_init 206 = .ok (.newarray .int, 2) := by decide +kernel
theorem dX11_init_208 : decode cX11_init 208 = .ok (.putfield 86, 3) := by decide +kernel
theorem dX11_init_211 : decode cX11_init 211 = .ok (.aload_n 0, 1) := by decide +kernel
theorem dX11_init_212 : decode cX11_init 212 = .ok (.sipush 384, 3) := by decide +kernel
theorem dX11_init_215 : decode cX11_init 215 = .ok (.newarray .int, 2) := by decide +kernel
theorem dX11_init_217 : decode cX11_init 217 = .ok (.putfield 89, 3) := by decide +kernel
theorem dX11_init_220 : decode cX11_init 220 = .ok (.aload_n 0, 1) := by decide +kernel
theorem dX11_init_221 : decode cX11_init 221 = .ok (.sipush 384, 3) := by decide +kernel
theorem dX11_init_224 : decode cX11_init 224 = .ok (.newarray .int, 2) := by decide +kernel
theorem dX11_init_226 : decode cX11_init 226 = .ok (.putfield 92, 3) := by decide +kernel
theorem dX11_init_229 : decode cX11_init 229 = .ok (.aload_n 0, 1) := by decide +kernel
theorem dX11_init_230 : decode cX11_init 230 = .ok (.sipush 1152, 3) := by decide +kernel
theorem dX11_init_233 : decode cX11_init 233 = .ok (.newarray .int, 2) := by decide +kernel
theorem dX11_init_235 : decode cX11_init 235 = .ok (.putfield 95, 3) := by decide +kernel
theorem dX11_init_238 : decode cX11_init 238 = .ok (.aload_n 0, 1) := by decide +kernel
theorem dX11_init_239 : decode cX11_init 239 = .ok (.sipush 768, 3) := by decide +kernel
theorem dX11_init_242 : decode cX11_init 242 = .ok (.newarray .int, 2) := by decide +kernel
theorem dX11_init_244 : decode cX11_init 244 = .ok (.putfield 98, 3) := by decide +kernel
theorem dX11_init_247 : decode cX11_init 247 = .ok (.aload_n 0, 1) := by decide +kernel
theorem dX11_init_248 : decode cX11_init 248 = .ok (.sipush 768, 3) := by decide +kernel
theorem dX11_init_251 : decode cX11_init 251 = .ok (.newarray .boolean, 2) := by decide +kernel
theorem dX11_init_253 : decode cX11_init 253 = .ok (.putfield 101, 3) := by decide +kernel
theorem dX11_init_256 : decode cX11_init 256 = .ok (.aload_n 0, 1) := by decide +kernel
theorem dX11_init_257 : decode cX11_init 257 = .ok (.bipush 8, 2) := by decide +kernel
theorem dX11_init_259 : decode cX11_init 259 = .ok (.newarray .int, 2) := by decide +kernel
theorem dX11_init_261 : decode cX11_init 261 = .ok (.putfield 105, 3) := by decide +kernel
theorem dX11_init_264 : decode cX11_init 264 = .ok (.aload_n 0, 1) := by decide +kernel
theorem dX11_init_265 : decode cX11_init 265 = .ok (.bipush 8, 2) := by decide +kernel
theorem dX11_init_267 : decode cX11_init 267 = .ok (.newarray .int, 2) := by decide +kernel
theorem dX11_init_269 : decode cX11_init 269 = .ok (.putfield 108, 3) := by decide +kernel
theorem dX11_init_272 : decode cX11_init 272 = .ok (.aload_n 0, 1) := by decide +kernel
theorem dX11_init_273 : decode cX11_init 273 = .ok (.bipush 8, 2) := by decide +kernel
theorem dX11_init_275 : decode cX11_init 275 = .ok (.newarray .int, 2) := by decide +kernel
theorem dX11_init_277 : decode cX11_init 277 = .ok (.putfield 111, 3) := by decide +kernel
theorem dX11_init_280 : decode cX11_init 280 = .ok (.aload_n 0, 1) := by decide +kernel
theorem dX11_init_281 : decode cX11_init 281 = .ok (.sipush 384, 3) := by decide +kernel
theorem dX11_init_284 : decode cX11_init 284 = .ok (.newarray .int, 2) := by decide +kernel
theorem dX11_init_286 : decode cX11_init 286 = .ok (.putfield 114, 3) := by decide +kernel
theorem dX11_init_289 : decode cX11_init 289 = .ok (.aload_n 0, 1) := by decide +kernel
theorem dX11_init_290 : decode cX11_init 290 = .ok (.sipush 384, 3) := by decide +kernel
theorem dX11_init_293 : decode cX11_init 293 = .ok (.newarray .int, 2) := by decide +kernel
theorem dX11_init_295 : decode cX11_init 295 = .ok (.putfield 117, 3) := by decide +kernel
theorem dX11_init_298 : decode cX11_init 298 = .ok (.aload_n 0, 1) := by decide +kernel
theorem dX11_init_299 : decode cX11_init 299 = .ok (.bipush 96, 2) := by decide +kernel
theorem dX11_init_301 : decode cX11_init 301 = .ok (.newarray .int, 2) := by decide +kernel
theorem dX11_init_303 : decode cX11_init 303 = .ok (.putfield 120, 3) := by decide +kernel
theorem dX11_init_306 : decode cX11_init 306 = .ok (.aload_n 0, 1) := by decide +kernel
theorem dX11_init_307 : decode cX11_init 307 = .ok (.bipush 48, 2) := by decide +kernel
theorem dX11_init_309 : decode cX11_init 309 = .ok (.newarray .int, 2) := by decide +kernel
theorem dX11_init_311 : decode cX11_init 311 = .ok (.putfield 123, 3) := by decide +kernel
theorem dX11_init_314 : decode cX11_init 314 = .ok (.aload_n 0, 1) := by decide +kernel
theorem dX11_init_315 : decode cX11_init 315 = .ok (.bipush 48, 2) := by decide +kernel
theorem dX11_init_317 : decode cX11_init 317 = .ok (.newarray .int, 2) := by decide +kernel
theorem dX11_init_319 : decode cX11_init 319 = .ok (.putfield 126, 3) := by decide +kernel
theorem dX11_init_322 : decode cX11_init 322 = .ok (.aload_n 0, 1) := by decide +kernel
theorem dX11_init_323 : decode cX11_init 323 = .ok (.sipush 144, 3) := by decide +kernel
theorem dX11_init_326 : decode cX11_init 326 = .ok (.newarray .int, 2) := by decide +kernel
theorem dX11_init_328 : decode cX11_init 328 = .ok (.putfield 129, 3) := by decide +kernel
theorem dX11_init_331 : decode cX11_init 331 = .ok (.aload_n 0, 1) := by decide +kernel
theorem dX11_init_332 : decode cX11_init 332 = .ok (.bipush 8, 2) := by decide +kernel
theorem dX11_init_334 : decode cX11_init 334 = .ok (.newarray .int, 2) := by decide +kernel
theorem dX11_init_336 : decode cX11_init 336 = .ok (.putfield 132, 3) := by decide +kernel
theorem dX11_init_339 : decode cX11_init 339 = .ok (.aload_n 0, 1) := by decide +kernel
theorem dX11_init_340 : decode cX11_init 340 = .ok (.bipush 8, 2) := by decide +kernel
theorem dX11_init_342 : decode cX11_init 342 = .ok (.newarray .int, 2) := by decide +kernel
theorem dX11_init_344 : decode cX11_init 344 = .ok (.putfield 135, 3) := by decide +kernel
theorem dX11_init_347 : decode cX11_init 347 = .ok (.aload_n 0, 1) := by decide +kernel
theorem dX11_init_348 : decode cX11_init 348 = .ok (.bipush 8, 2) := by decide +kernel
theorem dX11_init_350 : decode cX11_init 350 = .ok (.newarray .int, 2) := by decide +kernel
theorem dX11_init_352 : decode cX11_init 352 = .ok (.putfield 138, 3) := by decide +kernel
theorem dX11_init_355 : decode cX11_init 355 = .ok (.aload_n 0, 1) := by decide +kernel
theorem dX11_init_356 : decode cX11_init 356 = .ok (.bipush 8, 2) := by decide +kernel
theorem dX11_init_358 : decode cX11_init 358 = .ok (.newarray .int, 2) := by decide +kernel
theorem dX11_init_360 : decode cX11_init 360 = .ok (.putfield 141, 3) := by decide +kernel
theorem dX11_init_363 : decode cX11_init 363 = .ok (.aload_n 0, 1) := by decide +kernel
theorem dX11_init_364 : decode cX11_init 364 = .ok (.bipush 8, 2) := by decide +kernel
theorem dX11_init_366 : decode cX11_init 366 = .ok (.newarray .int, 2) := by decide +kernel
theorem dX11_init_368 : decode cX11_init 368 = .ok (.putfield 144, 3) := by decide +kernel
theorem dX11_init_371 : decode cX11_init 371 = .ok (.aload_n 0, 1) := by decide +kernel
theorem dX11_init_372 : decode cX11_init 372 = .ok (.bipush 8, 2) := by decide +kernel
theorem dX11_init_374 : decode cX11_init 374 = .ok (.newarray .int, 2) := by decide +kernel
theorem dX11_init_376 : decode cX11_init 376 = .ok (.putfield 147, 3) := by decide +kernel
theorem dX11_init_379 : decode cX11_init 379 = .ok (.aload_n 0, 1) := by decide +kernel
theorem dX11_init_380 : decode cX11_init 380 = .ok (.sipush 384, 3) := by decide +kernel
theorem dX11_init_383 : decode cX11_init 383 = .ok (.newarray .int, 2) := by decide +kernel
theorem dX11_init_385 : decode cX11_init 385 = .ok (.putfield 150, 3) := by decide +kernel
theorem dX11_init_388 : decode cX11_init 388 = .ok (.aload_n 0, 1) := by decide +kernel
theorem dX11_init_389 : decode cX11_init 389 = .ok (.sipush 384, 3) := by decide +kernel
theorem dX11_init_392 : decode cX11_init 392 = .ok (.newarray .boolean, 2) := by decide +kernel
theorem dX11_init_394 : decode cX11_init 394 = .ok (.putfield 153, 3) := by decide +kernel
theorem dX11_init_397 : decode cX11_init 397 = .ok (.aload_n 0, 1) := by decide +kernel
theorem dX11_init_398 : decode cX11_init 398 = .ok (.iconst 4, 1) := by decide +kernel
theorem dX11_init_399 : decode cX11_init 399 = .ok (.newarray .int, 2) := by decide +kernel
theorem dX11_init_401 : decode cX11_init 401 = .ok (.putfield 156, 3) := by decide +kernel
theorem dX11_init_404 : decode cX11_init 404 = .ok (.aload_n 0, 1) := by decide +kernel
theorem dX11_init_405 : decode cX11_init 405 = .ok (.bipush 9, 2) := by decide +kernel
theorem dX11_init_407 : decode cX11_init 407 = .ok (.newarray .long, 2) := by decide +kernel
theorem dX11_init_409 : decode cX11_init 409 = .ok (.putfield 159, 3) := by decide +kernel
theorem dX11_init_412 : decode cX11_init 412 = .ok (.aload_n 0, 1) := by decide +kernel
theorem dX11_init_413 : decode cX11_init 413 = .ok (.bipush 8, 2) := by decide +kernel
theorem dX11_init_415 : decode cX11_init 415 = .ok (.newarray .int, 2) := by decide +kernel
theorem dX11_init_417 : decode cX11_init 417 = .ok (.putfield 163, 3) := by decide +kernel
theorem dX11_init_420 : decode cX11_init 420 = .ok (.aload_n 0, 1) := by decide +kernel
theorem dX11_init_421 : decode cX11_init 421 = .ok (.sipush 320, 3) := by decide +kernel
theorem dX11_init_424 : decode cX11_init 424 = .ok (.newarray .int, 2) := by decide +kernel
theorem dX11_init_426 : decode cX11_init 426 = .ok (.putfield 166, 3) := by decide +kernel
theorem dX11_init_429 : decode cX11_init 429 = .ok (.aload_n 0, 1) := by decide +kernel
theorem dX11_init_430 : decode cX11_init 430 = .ok (.bipush 8, 2) := by decide +kernel
theorem dX11_init_432 : decode cX11_init 432 = .ok (.newarray .int, 2) := by decide +kernel
theorem dX11_init_434 : decode cX11_init 434 = .ok (.putfield 169, 3) := by decide +kernel
theorem dX11_init_437 : decode cX11_init 437 = .ok (.iconst 0, 1) := by decide +kernel
theorem dX11_init_438 : decode cX11_init 438 = .ok (.istore_n 1, 1) := by decide +kernel
theorem dX11_init_439 : decode cX11_init 439 = .ok (.iload_n 1, 1) := by decide +kernel
theorem dX11_init_440 : decode cX11_init 440 = .ok (.bipush 6, 2) := by decide +kernel
theorem dX11_init_442 : decode cX11_init 442 = .ok (.if_icmp .ge 25, 3) := by decide +kernel
theorem dX11_init_445 : decode cX11_init 445 = .ok (.aload_n 0, 1) := by decide +kernel
theorem dX11_init_446 : decode cX11_init 446 = .ok (.getfield 17, 3) := by decide +kernel
theorem dX11_init_449 : decode cX11_init 449 = .ok (.iload_n 1, 1) := by decide +kernel
theorem dX11_init_450 : decode cX11_init 450 = .ok (.bipush (-9), 2) := by decide +kernel
theorem dX11_init_452 : decode cX11_init 452 = .ok (.iastore, 1) := by decide +kernel
theorem dX11_init_453 : decode cX11_init 453 = .ok (.aload_n 0, 1) := by decide +kernel
theorem dX11_init_454 : decode cX11_init 454 = .ok (.getfield 26, 3) := by decide +kernel
theorem dX11_init_457 : decode cX11_init 457 = .ok (.iload_n 1, 1) := by decide +kernel
theorem dX11_init_458 : decode cX11_init 458 = .ok (.bipush (-9), 2) := by decide +kernel
theorem dX11_init_460 : decode cX11_init 460 = .ok (.iastore, 1) := by decide +kernel
theorem dX11_init_461 : decode cX11_init 461 = .ok (.iinc 1 1, 3) := by decide +kernel
theorem dX11_init_464 : decode cX11_init 464 = .ok (.goto (-25), 3) := by decide +kernel
theorem dX11_init_467 : decode cX11_init 467 = .ok (.iconst 0, 1) := by decide +kernel
theorem dX11_init_468 : decode cX11_init 468 = .ok (.istore_n 1, 1) := by decide +kernel
theorem dX11_init_469 : decode cX11_init 469 = .ok (.iload_n 1, 1) := by decide +kernel
theorem dX11_init_470 : decode cX11_init 470 = .ok (.bipush 8, 2) := by decide +kernel
theorem dX11_init_472 : decode cX11_init 472 = .ok (.if_icmp .ge 33, 3) := by decide +kernel
theorem dX11_init_475 : decode cX11_init 475 = .ok (.aload_n 0, 1) := by decide +kernel
theorem dX11_init_476 : decode cX11_init 476 = .ok (.getfield 38, 3) := by decide +kernel
theorem dX11_init_479 : decode cX11_init 479 = .ok (.iload_n 1, 1) := by decide +kernel
theorem dX11_init_480 : decode cX11_init 480 = .ok (.bipush (-9), 2) := by decide +kernel
theorem dX11_init_482 : decode cX11_init 482 = .ok (.iastore, 1) := by decide +kernel
theorem dX11_init_483 : decode cX11_init 483 = .ok (.aload_n 0, 1) := by decide +kernel
theorem dX11_init_484 : decode cX11_init 484 = .ok (.getfield 132, 3) := by decide +kernel
theorem dX11_init_487 : decode cX11_init 487 = .ok (.iload_n 1, 1) := by decide +kernel
theorem dX11_init_488 : decode cX11_init 488 = .ok (.bipush (-9), 2) := by decide +kernel
theorem dX11_init_490 : decode cX11_init 490 = .ok (.iastore, 1) := by decide +kernel
theorem dX11_init_491 : decode cX11_init 491 = .ok (.aload_n 0, 1) := by decide +kernel
theorem dX11_init_492 : decode cX11_init 492 = .ok (.getfield 141, 3) := by decide +kernel
theorem dX11_init_495 : decode cX11_init 495 = .ok (.iload_n 1, 1) := by decide +kernel
theorem dX11_init_496 : decode cX11_init 496 = .ok (.bipush (-9), 2) := by decide +kernel
theorem dX11_init_498 : decode cX11_init 498 = .ok (.iastore, 1) := by decide +kernel
theorem dX11_init_499 : decode cX11_init 499 = .ok (.iinc 1 1, 3) := by decide +kernel
theorem dX11_init_502 : decode cX11_init 502 = .ok (.goto (-33), 3) := by decide +kernel
theorem dX11_init_505 : decode cX11_init 505 = .ok (.return_, 1) := by decide +kernel
theorem dX11_in_0 : decode cX11_in 0 = .ok (.iload_n 0, 1) := by decide +kernel
theorem dX11_in_1 : decode cX11_in 1 = .ok (.iload_n 1, 1) := by decide +kernel
theorem dX11_in_2 : decode cX11_in 2 = .ok (.if_icmp .lt 12, 3) := by decide +kernel
theorem dX11_in_5 : decode cX11_in 5 = .ok (.iload_n 0, 1) := by decide +kernel
theorem dX11_in_6 : decode cX11_in 6 = .ok (.iload_n 2, 1) := by decide +kernel
theorem dX11_in_7 : decode cX11_in 7 = .ok (.if_icmp .gt 7, 3) := by decide +kernel
theorem dX11_in_10 : decode cX11_in 10 = .ok (.iconst 1, 1) := by decide +kernel
theorem dX11_in_11 : decode cX11_in 11 = .ok (.goto 4, 3) := by decide +kernel
theorem dX11_in_14 : decode cX11_in 14 = .ok (.iconst 0, 1) := by decide +kernel
theorem dX11_in_15 : decode cX11_in 15 = .ok (.ireturn, 1) := by decide +kernel
theorem dX11_meets_0 : decode cX11_meets 0 = .ok (.aload_n 0, 1) := by decide +kernel
theorem dX11_meets_1 : decode cX11_meets 1 = .ok (.iload_n 1, 1) := by decide +kernel
theorem dX11_meets_2 : decode cX11_meets 2 = .ok (.putfield 172, 3) := by decide +kernel
theorem dX11_meets_5 : decode cX11_meets 5 = .ok (.aload_n 0, 1) := by decide +kernel
theorem dX11_meets_6 : decode cX11_meets 6 = .ok (.getfield 7, 3) := by decide +kernel
theorem dX11_meets_9 : decode cX11_meets 9 = .ok (.iload_n 1, 1) := by decide +kernel
theorem dX11_meets_10 : decode cX11_meets 10 = .ok (.dup2, 1) := by decide +kernel
theorem dX11_meets_11 : decode cX11_meets 11 = .ok (.iaload, 1) := by decide +kernel
theorem dX11_meets_12 : decode cX11_meets 12 = .ok (.iconst 1, 1) := by decide +kernel
theorem dX11_meets_13 : decode cX11_meets 13 = .ok (.iadd, 1) := by decide +kernel
theorem dX11_meets_14 : decode cX11_meets 14 = .ok (.iastore, 1) := by decide +kernel
theorem dX11_meets_15 : decode cX11_meets 15 = .ok (.bipush (-3), 2) := by decide +kernel
theorem dX11_meets_17 : decode cX11_meets 17 = .ok (.ireturn, 1) := by decide +kernel
theorem dX11_ask_0 : decode cX11_ask 0 = .ok (.aload_n 0, 1) := by decide +kernel
theorem dX11_ask_1 : decode cX11_ask 1 = .ok (.iload_n 1, 1) := by decide +kernel
theorem dX11_ask_2 : decode cX11_ask 2 = .ok (.putfield 176, 3) := by decide +kernel
theorem dX11_ask_5 : decode cX11_ask 5 = .ok (.iload_n 2, 1) := by decide +kernel
theorem dX11_ask_6 : decode cX11_ask 6 = .ok (.ireturn, 1) := by decide +kernel
theorem dX11_tell_0 : decode cX11_tell 0 = .ok (.lload_n 1, 1) := by decide +kernel
theorem dX11_tell_1 : decode cX11_tell 1 = .ok (.lstore 6, 2) := by decide +kernel
theorem dX11_tell_3 : decode cX11_tell 3 = .ok (.lload_n 3, 1) := by decide +kernel
theorem dX11_tell_4 : decode cX11_tell 4 = .ok (.lstore 8, 2) := by decide +kernel
theorem dX11_tell_6 : decode cX11_tell 6 = .ok (.lload 8, 2) := by decide +kernel
theorem dX11_tell_8 : decode cX11_tell 8 = .ok (.lconst 0, 1) := by decide +kernel
theorem dX11_tell_9 : decode cX11_tell 9 = .ok (.lcmp, 1) := by decide +kernel
theorem dX11_tell_10 : decode cX11_tell 10 = .ok (.ifCond .eq 21, 3) := by decide +kernel
theorem dX11_tell_13 : decode cX11_tell 13 = .ok (.lload 6, 2) := by decide +kernel
theorem dX11_tell_15 : decode cX11_tell 15 = .ok (.lload 8, 2) := by decide +kernel
theorem dX11_tell_17 : decode cX11_tell 17 = .ok (.lrem, 1) := by decide +kernel
theorem dX11_tell_18 : decode cX11_tell 18 = .ok (.lstore 10, 2) := by decide +kernel
theorem dX11_tell_20 : decode cX11_tell 20 = .ok (.lload 8, 2) := by decide +kernel
theorem dX11_tell_22 : decode cX11_tell 22 = .ok (.lstore 6, 2) := by decide +kernel
theorem dX11_tell_24 : decode cX11_tell 24 = .ok (.lload 10, 2) := by decide +kernel
theorem dX11_tell_26 : decode cX11_tell 26 = .ok (.lstore 8, 2) := by decide +kernel
theorem dX11_tell_28 : decode cX11_tell 28 = .ok (.goto (-22), 3) := by decide +kernel
theorem dX11_tell_31 : decode cX11_tell 31 = .ok (.aload_n 0, 1) := by decide +kernel
theorem dX11_tell_32 : decode cX11_tell 32 = .ok (.lload_n 1, 1) := by decide +kernel
theorem dX11_tell_33 : decode cX11_tell 33 = .ok (.lload 6, 2) := by decide +kernel
theorem dX11_tell_35 : decode cX11_tell 35 = .ok (.ldiv, 1) := by decide +kernel
theorem dX11_tell_36 : decode cX11_tell 36 = .ok (.putfield 179, 3) := by decide +kernel
theorem dX11_tell_39 : decode cX11_tell 39 = .ok (.aload_n 0, 1) := by decide +kernel
theorem dX11_tell_40 : decode cX11_tell 40 = .ok (.lload_n 3, 1) := by decide +kernel
theorem dX11_tell_41 : decode cX11_tell 41 = .ok (.lload 6, 2) := by decide +kernel
theorem dX11_tell_43 : decode cX11_tell 43 = .ok (.ldiv, 1) := by decide +kernel
theorem dX11_tell_44 : decode cX11_tell 44 = .ok (.putfield 13, 3) := by decide +kernel
theorem dX11_tell_47 : decode cX11_tell 47 = .ok (.iload 5, 2) := by decide +kernel
theorem dX11_tell_49 : decode cX11_tell 49 = .ok (.ireturn, 1) := by decide +kernel
set_option maxRecDepth 20000 in
theorem ggX11_isSix_X11_in : GoodIn wsX11_isSix wsX11_in := goodIn_r _ [4] (by decide +kernel) (by decide +kernel)
set_option maxRecDepth 20000 in
theorem gX11_isSix_X11_in : GoodIn wsX11_isSix (va_wsS RX11 182 yX11_in wsX11_in) := goodIn_app (goodIn_of _ (by decide +kernel)) ggX11_isSix_X11_in
theorem dX11_isSix_0 : decode cX11_isSix 0 = .ok (.iload_n 0, 1) := by decide +kernel
theorem dX11_isSix_1 : decode cX11_isSix 1 = .ok (.iconst 0, 1) := by decide +kernel
theorem dX11_isSix_2 : decode cX11_isSix 2 = .ok (.iconst 5, 1) := by decide +kernel
theorem dX11_isSix_3 : decode cX11_isSix 3 = .ok (.invokestatic 182, 3) := by decide +kernel
theorem dX11_isSix_6 : decode cX11_isSix 6 = .ok (.ireturn, 1) := by decide +kernel
set_option maxRecDepth 20000 in
theorem ggX11_looked_X11_isSix : GoodIn wsX11_looked wsX11_isSix := goodIn_r _ [5, 6, 7, 4, 8] (by decide +kernel) (by decide +kernel)
set_option maxRecDepth 20000 in
theorem gX11_looked_X11_isSix : GoodIn wsX11_looked (va_wsS RX11 186 yX11_isSix wsX11_isSix) := goodIn_app (goodIn_of _ (by decide +kernel)) ggX11_looked_X11_isSix
set_option maxRecDepth 20000 in
theorem ggX11_looked_X11_meets : GoodIn wsX11_looked wsX11_meets := goodIn_r _ [12, 13, 14, 15, 16, 17, 18, 19, 20, 21, 22, 23, 24, 25, 26, 27, 28, 29, 30, 31, 32, 33, 34, 35, 36, 37, 38, 39, 40, 41, 42, 43, 44, 45, 46, 47, 48, 49, 50, 51, 52, 53, 54, 55, 56, 57, 58, 59, 60, 61, 62, 63, 64, 65, 66, 67, 68, 69, 70, 71, 72, 73, 74, 75, 76, 77, 78, 79, 80] (by decide +kernel) (by decide +kernel)
set_option maxRecDepth 20000 in
theorem gX11_looked_X11_meets : GoodIn wsX11_looked (wsV RX11 190 RX11 yX11_meets wsX11_meets) := goodIn_app (goodIn_of _ (by decide +kernel)) ggX11_looked_X11_meets
theorem dX11_looked_0 : decode cX11_looked 0 = .ok (.iload_n 1, 1) := by decide +kernel
theorem dX11_looked_1 : decode cX11_looked 1 = .ok (.invokestatic 186, 3) := by decide +kernel
theorem dX11_looked_4 : decode cX11_looked 4 = .ok (.ifCond .ne 7, 3) := by decide +kernel
theorem dX11_looked_7 : decode cX11_looked 7 = .ok (.iconst (-1), 1) := by decide +kernel
theorem dX11_looked_8 : decode cX11_looked 8 = .ok (.goto 21, 3) := by decide +kernel
theorem dX11_looked_11 : decode cX11_looked 11 = .ok (.aload_n 0, 1) := by decide +kernel
theorem dX11_looked_12 : decode cX11_looked 12 = .ok (.getfield 17, 3) := by decide +kernel
theorem dX11_looked_15 : decode cX11_looked 15 = .ok (.iload_n 1, 1) := by decide +kernel
theorem dX11_looked_16 : decode cX11_looked 16 = .ok (.iaload, 1) := by decide +kernel
theorem dX11_looked_17 : decode cX11_looked 17 = .ok (.ifCond .ge 11, 3) := by decide +kernel
theorem dX11_looked_20 : decode cX11_looked 20 = .ok (.aload_n 0, 1) := by decide +kernel
theorem dX11_looked_21 : decode cX11_looked 21 = .ok (.iconst 1, 1) := by decide +kernel
theorem dX11_looked_22 : decode cX11_looked 22 = .ok (.invokevirtual 190, 3) := by decide +kernel
theorem dX11_looked_25 : decode cX11_looked 25 = .ok (.goto 4, 3) := by decide +kernel
theorem dX11_looked_28 : decode cX11_looked 28 = .ok (.iconst 0, 1) := by decide +kernel
theorem dX11_looked_29 : decode cX11_looked 29 = .ok (.ireturn, 1) := by decide +kernel
set_option maxRecDepth 20000 in
theorem ggX11_row_X11_isSix : GoodIn wsX11_row wsX11_isSix := goodIn_r _ [6, 7, 8, 5, 9] (by decide +kernel) (by decide +kernel)
set_option maxRecDepth 20000 in
theorem gX11_row_X11_isSix : GoodIn wsX11_row (va_wsS RX11 186 yX11_isSix wsX11_isSix) := goodIn_app (goodIn_of _ (by decide +kernel)) ggX11_row_X11_isSix
set_option maxRecDepth 20000 in
theorem ggX11_row_X11_meets : GoodIn wsX11_row wsX11_meets := goodIn_r _ [13, 14, 15, 16, 17, 18, 19, 20, 21, 22, 23, 24, 25, 26, 27, 28, 29, 30, 31, 32, 33, 34, 35, 36, 37, 38, 39, 40, 41, 42, 43, 44, 45, 46, 47, 48, 49, 50, 51, 52, 53, 54, 55, 56, 57, 58, 59, 60, 61, 62, 63, 64, 65, 66, 67, 68, 69, 70, 71, 72, 73, 74, 75, 76, 77, 78, 79, 80, 81] (by decide +kernel) (by decide +kernel)
set_option maxRecDepth 20000 in
theorem gX11_row_X11_meets : GoodIn wsX11_row (wsV RX11 190 RX11 yX11_meets wsX11_meets) := goodIn_app (goodIn_of _ (by decide +kernel)) ggX11_row_X11_meets
theorem dX11_row_0 : decode cX11_row 0 = .ok (.iload_n 1, 1) := by decide +kernel
theorem dX11_row_1 : decode cX11_row 1 = .ok (.invokestatic 186, 3) := by decide +kernel
theorem dX11_row_4 : decode cX11_row 4 = .ok (.ifCond .eq 9, 3) := by decide +kernel
theorem dX11_row_7 : decode cX11_row 7 = .ok (.iload_n 2, 1) := by decide +kernel
theorem dX11_row_8 : decode cX11_row 8 = .ok (.bipush 48, 2) := by decide +kernel
theorem dX11_row_10 : decode cX11_row 10 = .ok (.if_icmp .le 5, 3) := by decide +kernel
theorem dX11_row_13 : decode cX11_row 13 = .ok (.iconst (-1), 1) := by decide +kernel
theorem dX11_row_14 : decode cX11_row 14 = .ok (.ireturn, 1) := by decide +kernel
theorem dX11_row_15 : decode cX11_row 15 = .ok (.iload_n 2, 1) := by decide +kernel
theorem dX11_row_16 : decode cX11_row 16 = .ok (.ifCond .ge 9, 3) := by decide +kernel
theorem dX11_row_19 : decode cX11_row 19 = .ok (.aload_n 0, 1) := by decide +kernel
theorem dX11_row_20 : decode cX11_row 20 = .ok (.iconst 5, 1) := by decide +kernel
theorem dX11_row_21 : decode cX11_row 21 = .ok (.invokevirtual 190, 3) := by decide +kernel
theorem dX11_row_24 : decode cX11_row 24 = .ok (.ireturn, 1) := by decide +kernel
theorem dX11_row_25 : decode cX11_row 25 = .ok (.aload_n 0, 1) := by decide +kernel
theorem dX11_row_26 : decode cX11_row 26 = .ok (.getfield 17, 3) := by decide +kernel
theorem dX11_row_29 : decode cX11_row 29 = .ok (.iload_n 1, 1) := by decide +kernel
theorem dX11_row_30 : decode cX11_row 30 = .ok (.iload_n 2, 1) := by decide +kernel
theorem dX11_row_31 : decode cX11_row 31 = .ok (.iastore, 1) := by decide +kernel
theorem dX11_row_32 : decode cX11_row 32 = .ok (.iconst 0, 1) := by decide +kernel
theorem dX11_row_33 : decode cX11_row 33 = .ok (.istore_n 3, 1) := by decide +kernel
theorem dX11_row_34 : decode cX11_row 34 = .ok (.iload_n 3, 1) := by decide +kernel
theorem dX11_row_35 : decode cX11_row 35 = .ok (.bipush 48, 2) := by decide +kernel
theorem dX11_row_37 : decode cX11_row 37 = .ok (.if_icmp .ge 21, 3) := by decide +kernel
theorem dX11_row_40 : decode cX11_row 40 = .ok (.aload_n 0, 1) := by decide +kernel
theorem dX11_row_41 : decode cX11_row 41 = .ok (.getfield 20, 3) := by decide +kernel
theorem dX11_row_44 : decode cX11_row 44 = .ok (.bipush 48, 2) := by decide +kernel
theorem dX11_row_46 : decode cX11_row 46 = .ok (.iload_n 1, 1) := by decide +kernel
theorem dX11_row_47 : decode cX11_row 47 = .ok (.imul, 1) := by decide +kernel
theorem dX11_row_48 : decode cX11_row 48 = .ok (.iload_n 3, 1) := by decide +kernel
theorem dX11_row_49 : decode cX11_row 49 = .ok (.iadd, 1) := by decide +kernel
theorem dX11_row_50 : decode cX11_row 50 = .ok (.iconst 0, 1) := by decide +kernel
theorem dX11_row_51 : decode cX11_row 51 = .ok (.iastore, 1) := by decide +kernel
theorem dX11_row_52 : decode cX11_row 52 = .ok (.iinc 3 1, 3) := by decide +kernel
theorem dX11_row_55 : decode cX11_row 55 = .ok (.goto (-21), 3) := by decide +kernel
theorem dX11_row_58 : decode cX11_row 58 = .ok (.iload_n 2, 1) := by decide +kernel
theorem dX11_row_59 : decode cX11_row 59 = .ok (.ireturn, 1) := by decide +kernel
set_option maxRecDepth 20000 in
theorem ggX11_lay_X11_in : GoodIn wsX11_lay wsX11_in := goodIn_r _ [9] (by decide +kernel) (by decide +kernel)
set_option maxRecDepth 20000 in
theorem gX11_lay_X11_in : GoodIn wsX11_lay (va_wsS RX11 182 yX11_in wsX11_in) := goodIn_app (goodIn_of _ (by decide +kernel)) ggX11_lay_X11_in
set_option maxRecDepth 20000 in
theorem ggX11_lay_X11_looked : GoodIn wsX11_lay wsX11_looked := goodIn_r _ [13, 3, 14, 15, 8, 16, 6, 7, 9, 17, 18, 19, 20, 21, 22, 23, 24, 25, 26, 27, 28, 29, 30, 31, 32, 33, 34, 35, 36, 37, 38, 39, 40, 41, 42, 43, 44, 45, 46, 47, 48, 49, 50, 51, 52, 53, 54, 55, 56, 57, 58, 59, 60, 61, 62, 63, 64, 65, 66, 67, 68, 69, 70, 71, 72, 73, 74, 75, 76, 77, 78, 79, 80, 81, 82, 83, 84, 85, 86, 87, 88] (by decide +kernel) (by decide +kernel)
set_option maxRecDepth 20000 in
theorem gX11_lay_X11_looked : GoodIn wsX11_lay (wsV RX11 196 RX11 yX11_looked wsX11_looked) := goodIn_app (goodIn_of _ (by decide +kernel)) ggX11_lay_X11_looked
set_option maxRecDepth 20000 in
theorem ggX11_lay_X11_meets : GoodIn wsX11_lay wsX11_meets := goodIn_r _ [20, 21, 22, 23, 24, 25, 26, 27, 28, 29, 30, 31, 32, 33, 34, 35, 36, 37, 38, 39, 40, 41, 42, 43, 44, 45, 46, 47, 48, 49, 50, 51, 52, 53, 54, 55, 56, 57, 58, 59, 60, 61, 62, 63, 64, 65, 66, 67, 68, 69, 70, 71, 72, 73, 74, 75, 76, 77, 78, 79, 80, 81, 82, 83, 84, 85, 86, 87, 88] (by decide +kernel) (by decide +kernel)
set_option maxRecDepth 20000 in
theorem gX11_lay_X11_meets : GoodIn wsX11_lay (wsV RX11 190 RX11 yX11_meets wsX11_meets) := goodIn_app (goodIn_of _ (by decide +kernel)) ggX11_lay_X11_meets
theorem dX11_lay_0 : decode cX11_lay 0 = .ok (.iload_n 3, 1) := by decide +kernel
theorem dX11_lay_1 : decode cX11_lay 1 = .ok (.ldc 194, 2) := by decide +kernel
theorem dX11_lay_3 : decode cX11_lay 3 = .ok (.ldc 195, 2) := by decide +kernel
theorem dX11_lay_5 : decode cX11_lay 5 = .ok (.invokestatic 182, 3) := by decide +kernel
theorem dX11_lay_8 : decode cX11_lay 8 = .ok (.ifCond .ne 5, 3) := by decide +kernel
theorem dX11_lay_11 : decode cX11_lay 11 = .ok (.iconst (-1), 1) := by decide +kernel
theorem dX11_lay_12 : decode cX11_lay 12 = .ok (.ireturn, 1) := by decide +kernel
theorem dX11_lay_13 : decode cX11_lay 13 = .ok (.aload_n 0, 1) := by decide +kernel
theorem dX11_lay_14 : decode cX11_lay 14 = .ok (.iload_n 1, 1) := by decide +kernel
theorem dX11_lay_15 : decode cX11_lay 15 = .ok (.invokevirtual 196, 3) := by decide +kernel
theorem dX11_lay_18 : decode cX11_lay 18 = .ok (.istore 4, 2) := by decide +kernel
theorem dX11_lay_20 : decode cX11_lay 20 = .ok (.iload 4, 2) := by decide +kernel
theorem dX11_lay_22 : decode cX11_lay 22 = .ok (.ifCond .ge 6, 3) := by decide +kernel
theorem dX11_lay_25 : decode cX11_lay 25 = .ok (.iload 4, 2) := by decide +kernel
theorem dX11_lay_27 : decode cX11_lay 27 = .ok (.ireturn, 1) := by decide +kernel
theorem dX11_lay_28 : decode cX11_lay 28 = .ok (.iload_n 2, 1) := by decide +kernel
theorem dX11_lay_29 : decode cX11_lay 29 = .ok (.iconst 0, 1) := by decide +kernel
theorem dX11_lay_30 : decode cX11_lay 30 = .ok (.aload_n 0, 1) := by decide +kernel
theorem dX11_lay_31 : decode cX11_lay 31 = .ok (.getfield 17, 3) := by decide +kernel
theorem dX11_lay_34 : decode cX11_lay 34 = .ok (.iload_n 1, 1) := by decide +kernel
theorem dX11_lay_35 : decode cX11_lay 35 = .ok (.iaload, 1) := by decide +kernel
theorem dX11_lay_36 : decode cX11_lay 36 = .ok (.iconst 1, 1) := by decide +kernel
theorem dX11_lay_37 : decode cX11_lay 37 = .ok (.isub, 1) := by decide +kernel
theorem dX11_lay_38 : decode cX11_lay 38 = .ok (.invokestatic 182, 3) := by decide +kernel
theorem dX11_lay_41 : decode cX11_lay 41 = .ok (.ifCond .ne 9, 3) := by decide +kernel
theorem dX11_lay_44 : decode cX11_lay 44 = .ok (.aload_n 0, 1) := by decide +kernel
theorem dX11_lay_45 : decode cX11_lay 45 = .ok (.iconst 2, 1) := by decide +kernel
theorem dX11_lay_46 : decode cX11_lay 46 = .ok (.invokevirtual 190, 3) := by decide +kernel
theorem dX11_lay_49 : decode cX11_lay 49 = .ok (.ireturn, 1) := by decide +kernel
theorem dX11_lay_50 : decode cX11_lay 50 = .ok (.aload_n 0, 1) := by decide +kernel
theorem dX11_lay_51 : decode cX11_lay 51 = .ok (.aload_n 0, 1) := by decide +kernel
theorem dX11_lay_52 : decode cX11_lay 52 = .ok (.getfield 20, 3) := by decide +kernel
theorem dX11_lay_55 : decode cX11_lay 55 = .ok (.bipush 48, 2) := by decide +kernel
theorem dX11_lay_57 : decode cX11_lay 57 = .ok (.iload_n 1, 1) := by decide +kernel
theorem dX11_lay_58 : decode cX11_lay 58 = .ok (.imul, 1) := by decide +kernel
theorem dX11_lay_59 : decode cX11_lay 59 = .ok (.iload_n 2, 1) := by decide +kernel
theorem dX11_lay_60 : decode cX11_lay 60 = .ok (.iadd, 1) := by decide +kernel
theorem dX11_lay_61 : decode cX11_lay 61 = .ok (.iaload, 1) := by decide +kernel
theorem dX11_lay_62 : decode cX11_lay 62 = .ok (.putfield 176, 3) := by decide +kernel
theorem dX11_lay_65 : decode cX11_lay 65 = .ok (.aload_n 0, 1) := by decide +kernel
theorem dX11_lay_66 : decode cX11_lay 66 = .ok (.getfield 20, 3) := by decide +kernel
theorem dX11_lay_69 : decode cX11_lay 69 = .ok (.bipush 48, 2) := by decide +kernel
theorem dX11_lay_71 : decode cX11_lay 71 = .ok (.iload_n 1, 1) := by decide +kernel
theorem dX11_lay_72 : decode cX11_lay 72 = .ok (.imul, 1) := by decide +kernel
theorem dX11_lay_73 : decode cX11_lay 73 = .ok (.iload_n 2, 1) := by decide +kernel
theorem dX11_lay_74 : decode cX11_lay 74 = .ok (.iadd, 1) := by decide +kernel
theorem dX11_lay_75 : decode cX11_lay 75 = .ok (.iload_n 3, 1) := by decide +kernel
theorem dX11_lay_76 : decode cX11_lay 76 = .ok (.iastore, 1) := by decide +kernel
theorem dX11_lay_77 : decode cX11_lay 77 = .ok (.iconst 1, 1) := by decide +kernel
theorem dX11_lay_78 : decode cX11_lay 78 = .ok (.ireturn, 1) := by decide +kernel
set_option maxRecDepth 20000 in
theorem ggX11_tear_X11_looked : GoodIn wsX11_tear wsX11_looked := goodIn_r _ [6, 1, 7, 8, 5, 9, 10, 11, 12, 13, 14, 15, 16, 17, 18, 19, 20, 21, 22, 23, 24, 25, 26, 27, 28, 29, 30, 31, 32, 33, 34, 35, 36, 37, 38, 39, 40, 41, 42, 43, 44, 45, 46, 47, 48, 49, 50, 51, 52, 53, 54, 55, 56, 57, 58, 59, 60, 61, 62, 63, 64, 65, 66, 67, 68, 69, 70, 71, 72, 73, 74, 75, 76, 77, 78, 79, 80, 81, 82, 83, 84] (by decide +kernel) (by decide +kernel)
set_option maxRecDepth 20000 in
theorem gX11_tear_X11_looked : GoodIn wsX11_tear (wsV RX11 196 RX11 yX11_looked wsX11_looked) := goodIn_app (goodIn_of _ (by decide +kernel)) ggX11_tear_X11_looked
theorem dX11_tear_0 : decode cX11_tear 0 = .ok (.aload_n 0, 1) := by decide +kernel
theorem dX11_tear_1 : decode cX11_tear 1 = .ok (.iload_n 1, 1) := by decide +kernel
theorem dX11_tear_2 : decode cX11_tear 2 = .ok (.invokevirtual 196, 3) := by decide +kernel
theorem dX11_tear_5 : decode cX11_tear 5 = .ok (.istore_n 2, 1) := by decide +kernel
theorem dX11_tear_6 : decode cX11_tear 6 = .ok (.iload_n 2, 1) := by decide +kernel
theorem dX11_tear_7 : decode cX11_tear 7 = .ok (.ifCond .ge 5, 3) := by decide +kernel
theorem dX11_tear_10 : decode cX11_tear 10 = .ok (.iload_n 2, 1) := by decide +kernel
theorem dX11_tear_11 : decode cX11_tear 11 = .ok (.ireturn, 1) := by decide +kernel
theorem dX11_tear_12 : decode cX11_tear 12 = .ok (.aload_n 0, 1) := by decide +kernel
theorem dX11_tear_13 : decode cX11_tear 13 = .ok (.getfield 17, 3) := by decide +kernel
theorem dX11_tear_16 : decode cX11_tear 16 = .ok (.iload_n 1, 1) := by decide +kernel
theorem dX11_tear_17 : decode cX11_tear 17 = .ok (.bipush (-9), 2) := by decide +kernel
theorem dX11_tear_19 : decode cX11_tear 19 = .ok (.iastore, 1) := by decide +kernel
theorem dX11_tear_20 : decode cX11_tear 20 = .ok (.iconst 1, 1) := by decide +kernel
theorem dX11_tear_21 : decode cX11_tear 21 = .ok (.ireturn, 1) := by decide +kernel
set_option maxRecDepth 20000 in
theorem ggX11_copy_X11_isSix : GoodIn wsX11_copy wsX11_isSix := goodIn_r _ [7, 8, 9, 6, 10] (by decide +kernel) (by decide +kernel)
set_option maxRecDepth 20000 in
theorem gX11_copy_X11_isSix : GoodIn wsX11_copy (va_wsS RX11 186 yX11_isSix wsX11_isSix) := goodIn_app (goodIn_of _ (by decide +kernel)) ggX11_copy_X11_isSix
set_option maxRecDepth 20000 in
theorem ggX11_copy_X11_meets : GoodIn wsX11_copy wsX11_meets := goodIn_r _ [14, 15, 16, 17, 18, 19, 20, 21, 22, 23, 24, 25, 26, 27, 28, 29, 30, 31, 32, 33, 34, 35, 36, 37, 38, 39, 40, 41, 42, 43, 44, 45, 46, 47, 48, 49, 50, 51, 52, 53, 54, 55, 56, 57, 58, 59, 60, 61, 62, 63, 64, 65, 66, 67, 68, 69, 70, 71, 72, 73, 74, 75, 76, 77, 78, 79, 80, 81, 82] (by decide +kernel) (by decide +kernel)
set_option maxRecDepth 20000 in
theorem gX11_copy_X11_meets : GoodIn wsX11_copy (wsV RX11 190 RX11 yX11_meets wsX11_meets) := goodIn_app (goodIn_of _ (by decide +kernel)) ggX11_copy_X11_meets
theorem dX11_copy_0 : decode cX11_copy 0 = .ok (.iload_n 1, 1) := by decide +kernel
theorem dX11_copy_1 : decode cX11_copy 1 = .ok (.invokestatic 186, 3) := by decide +kernel
theorem dX11_copy_4 : decode cX11_copy 4 = .ok (.ifCond .eq 10, 3) := by decide +kernel
theorem dX11_copy_7 : decode cX11_copy 7 = .ok (.iload_n 3, 1) := by decide +kernel
theorem dX11_copy_8 : decode cX11_copy 8 = .ok (.invokestatic 186, 3) := by decide +kernel
theorem dX11_copy_11 : decode cX11_copy 11 = .ok (.ifCond .ne 5, 3) := by decide +kernel
theorem dX11_copy_14 : decode cX11_copy 14 = .ok (.iconst (-1), 1) := by decide +kernel
theorem dX11_copy_15 : decode cX11_copy 15 = .ok (.ireturn, 1) := by decide +kernel
theorem dX11_copy_16 : decode cX11_copy 16 = .ok (.iload 5, 2) := by decide +kernel
theorem dX11_copy_18 : decode cX11_copy 18 = .ok (.ifCond .ge 9, 3) := by decide +kernel
theorem dX11_copy_21 : decode cX11_copy 21 = .ok (.aload_n 0, 1) := by decide +kernel
theorem dX11_copy_22 : decode cX11_copy 22 = .ok (.iconst 5, 1) := by decide +kernel
theorem dX11_copy_23 : decode cX11_copy 23 = .ok (.invokevirtual 190, 3) := by decide +kernel
theorem dX11_copy_26 : decode cX11_copy 26 = .ok (.ireturn, 1) := by decide +kernel
theorem dX11_copy_27 : decode cX11_copy 27 = .ok (.aload_n 0, 1) := by decide +kernel
theorem dX11_copy_28 : decode cX11_copy 28 = .ok (.getfield 17, 3) := by decide +kernel
theorem dX11_copy_31 : decode cX11_copy 31 = .ok (.iload_n 1, 1) := by decide +kernel
theorem dX11_copy_32 : decode cX11_copy 32 = .ok (.iaload, 1) := by decide +kernel
theorem dX11_copy_33 : decode cX11_copy 33 = .ok (.ifCond .lt 12, 3) := by decide +kernel
theorem dX11_copy_36 : decode cX11_copy 36 = .ok (.aload_n 0, 1) := by decide +kernel
theorem dX11_copy_37 : decode cX11_copy 37 = .ok (.getfield 17, 3) := by decide +kernel
theorem dX11_copy_40 : decode cX11_copy 40 = .ok (.iload_n 3, 1) := by decide +kernel
theorem dX11_copy_41 : decode cX11_copy 41 = .ok (.iaload, 1) := by decide +kernel
theorem dX11_copy_42 : decode cX11_copy 42 = .ok (.ifCond .ge 9, 3) := by decide +kernel
theorem dX11_copy_45 : decode cX11_copy 45 = .ok (.aload_n 0, 1) := by decide +kernel
theorem dX11_copy_46 : decode cX11_copy 46 = .ok (.iconst 1, 1) := by decide +kernel
theorem dX11_copy_47 : decode cX11_copy 47 = .ok (.invokevirtual 190, 3) := by decide +kernel
theorem dX11_copy_50 : decode cX11_copy 50 = .ok (.ireturn, 1) := by decide +kernel
theorem dX11_copy_51 : decode cX11_copy 51 = .ok (.iload_n 2, 1) := by decide +kernel
theorem dX11_copy_52 : decode cX11_copy 52 = .ok (.ifCond .lt 43, 3) := by decide +kernel
theorem dX11_copy_55 : decode cX11_copy 55 = .ok (.iload 4, 2) := by decide +kernel
theorem dX11_copy_57 : decode cX11_copy 57 = .ok (.ifCond .lt 38, 3) := by decide +kernel
theorem dX11_copy_60 : decode cX11_copy 60 = .ok (.iload_n 2, 1) := by decide +kernel
theorem dX11_copy_61 : decode cX11_copy 61 = .ok (.i2l, 1) := by decide +kernel
theorem dX11_copy_62 : decode cX11_copy 62 = .ok (.iload 5, 2) := by decide +kernel
theorem dX11_copy_64 : decode cX11_copy 64 = .ok (.i2l, 1) := by decide +kernel
theorem dX11_copy_65 : decode cX11_copy 65 = .ok (.ladd, 1) := by decide +kernel
theorem dX11_copy_66 : decode cX11_copy 66 = .ok (.aload_n 0, 1) := by decide +kernel
theorem dX11_copy_67 : decode cX11_copy 67 = .ok (.getfield 17, 3) := by decide +kernel
theorem dX11_copy_70 : decode cX11_copy 70 = .ok (.iload_n 1, 1) := by decide +kernel
theorem dX11_copy_71 : decode cX11_copy 71 = .ok (.iaload, 1) := by decide +kernel
theorem dX11_copy_72 : decode cX11_copy 72 = .ok (.i2l, 1) := by decide +kernel
theorem dX11_copy_73 : decode cX11_copy 73 = .ok (.lcmp, 1) := by decide +kernel
theorem dX11_copy_74 : decode cX11_copy 74 = .ok (.ifCond .gt 21, 3) := by decide +kernel
theorem dX11_copy_77 : decode cX11_copy 77 = .ok (.iload 4, 2) := by decide +kernel
theorem dX11_copy_79 : decode cX11_copy 79 = .ok (.i2l, 1) := by decide +kernel
theorem dX11_copy_80 : decode cX11_copy 80 = .ok (.iload 5, 2) := by decide +kernel
theorem dX11_copy_82 : decode cX11_copy 82 = .ok (.i2l, 1) := by decide +kernel
theorem dX11_copy_83 : decode cX11_copy 83 = .ok (.ladd, 1) := by decide +kernel
theorem dX11_copy_84 : decode cX11_copy 84 = .ok (.aload_n 0, 1) := by decide +kernel
theorem dX11_copy_85 : decode cX11_copy 85 = .ok (.getfield 17, 3) := by decide +kernel
theorem dX11_copy_88 : decode cX11_copy 88 = .ok (.iload_n 3, 1) := by decide +kernel
theorem dX11_copy_89 : decode cX11_copy 89 = .ok (.iaload, 1) := by decide +kernel
theorem dX11_copy_90 : decode cX11_copy 90 = .ok (.i2l, 1) := by decide +kernel
theorem dX11_copy_91 : decode cX11_copy 91 = .ok (.lcmp, 1) := by decide +kernel
theorem dX11_copy_92 : decode cX11_copy 92 = .ok (.ifCond .le 9, 3) := by decide +kernel
theorem dX11_copy_95 : decode cX11_copy 95 = .ok (.aload_n 0, 1) := by decide +kernel
theorem dX11_copy_96 : decode cX11_copy 96 = .ok (.iconst 2, 1) := by decide +kernel
theorem dX11_copy_97 : decode cX11_copy 97 = .ok (.invokevirtual 190, 3) := by decide +kernel
theorem dX11_copy_100 : decode cX11_copy 100 = .ok (.ireturn, 1) := by decide +kernel
theorem dX11_copy_101 : decode cX11_copy 101 = .ok (.iconst 0, 1) := by decide +kernel
theorem dX11_copy_102 : decode cX11_copy 102 = .ok (.istore 6, 2) := by decide +kernel
theorem dX11_copy_104 : decode cX11_copy 104 = .ok (.iload 6, 2) := by decide +kernel
theorem dX11_copy_106 : decode cX11_copy 106 = .ok (.iload 5, 2) := by decide +kernel
theorem dX11_copy_108 : decode cX11_copy 108 = .ok (.if_icmp .ge 30, 3) := by decide +kernel
theorem dX11_copy_111 : decode cX11_copy 111 = .ok (.aload_n 0, 1) := by decide +kernel
theorem dX11_copy_112 : decode cX11_copy 112 = .ok (.getfield 23, 3) := by decide +kernel
theorem dX11_copy_115 : decode cX11_copy 115 = .ok (.iload 6, 2) := by decide +kernel
theorem dX11_copy_117 : decode cX11_copy 117 = .ok (.aload_n 0, 1) := by decide +kernel
theorem dX11_copy_118 : decode cX11_copy 118 = .ok (.getfield 20, 3) := by decide +kernel
theorem dX11_copy_121 : decode cX11_copy 121 = .ok (.bipush 48, 2) := by decide +kernel
theorem dX11_copy_123 : decode cX11_copy 123 = .ok (.iload_n 1, 1) := by decide +kernel
theorem dX11_copy_124 : decode cX11_copy 124 = .ok (.imul, 1) := by decide +kernel
theorem dX11_copy_125 : decode cX11_copy 125 = .ok (.iload_n 2, 1) := by decide +kernel
theorem dX11_copy_126 : decode cX11_copy 126 = .ok (.iadd, 1) := by decide +kernel
theorem dX11_copy_127 : decode cX11_copy 127 = .ok (.iload 6, 2) := by decide +kernel
theorem dX11_copy_129 : decode cX11_copy 129 = .ok (.iadd, 1) := by decide +kernel
theorem dX11_copy_130 : decode cX11_copy 130 = .ok (.iaload, 1) := by decide +kernel
theorem dX11_copy_131 : decode cX11_copy 131 = .ok (.iastore, 1) := by decide +kernel
theorem dX11_copy_132 : decode cX11_copy 132 = .ok (.iinc 6 1, 3) := by decide +kernel
theorem dX11_copy_135 : decode cX11_copy 135 = .ok (.goto (-31), 3) := by decide +kernel
theorem dX11_copy_138 : decode cX11_copy 138 = .ok (.iconst 0, 1) := by decide +kernel
theorem dX11_copy_139 : decode cX11_copy 139 = .ok (.istore 6, 2) := by decide +kernel
theorem dX11_copy_141 : decode cX11_copy 141 = .ok (.iload 6, 2) := by decide +kernel
theorem dX11_copy_143 : decode cX11_copy 143 = .ok (.iload 5, 2) := by decide +kernel
theorem dX11_copy_145 : decode cX11_copy 145 = .ok (.if_icmp .ge 31, 3) := by decide +kernel
theorem dX11_copy_148 : decode cX11_copy 148 = .ok (.aload_n 0, 1) := by decide +kernel
theorem dX11_copy_149 : decode cX11_copy 149 = .ok (.getfield 20, 3) := by decide +kernel
theorem dX11_copy_152 : decode cX11_copy 152 = .ok (.bipush 48, 2) := by decide +kernel
theorem dX11_copy_154 : decode cX11_copy 154 = .ok (.iload_n 3, 1) := by decide +kernel
theorem dX11_copy_155 : decode cX11_copy 155 = .ok (.imul, 1) := by decide +kernel
theorem dX11_copy_156 : decode cX11_copy 156 = .ok (.iload 4, 2) := by decide +kernel
theorem dX11_copy_158 : decode cX11_copy 158 = .ok (.iadd, 1) := by decide +kernel
theorem dX11_copy_159 : decode cX11_copy 159 = .ok (.iload 6, 2) := by decide +kernel
theorem dX11_copy_161 : decode cX11_copy 161 = .ok (.iadd, 1) := by decide +kernel
theorem dX11_copy_162 : decode cX11_copy 162 = .ok (.aload_n 0, 1) := by decide +kernel
theorem dX11_copy_163 : decode cX11_copy 163 = .ok (.getfield 23, 3) := by decide +kernel
theorem dX11_copy_166 : decode cX11_copy 166 = .ok (.iload 6, 2) := by decide +kernel
theorem dX11_copy_168 : decode cX11_copy 168 = .ok (.iaload, 1) := by decide +kernel
theorem dX11_copy_169 : decode cX11_copy 169 = .ok (.iastore, 1) := by decide +kernel
theorem dX11_copy_170 : decode cX11_copy 170 = .ok (.iinc 6 1, 3) := by decide +kernel
theorem dX11_copy_173 : decode cX11_copy 173 = .ok (.goto (-32), 3) := by decide +kernel
theorem dX11_copy_176 : decode cX11_copy 176 = .ok (.iconst 1, 1) := by decide +kernel
theorem dX11_copy_177 : decode cX11_copy 177 = .ok (.ireturn, 1) := by decide +kernel
theorem dX11_countOf_0 : decode cX11_countOf 0 = .ok (.iconst 0, 1) := by decide +kernel
theorem dX11_countOf_1 : decode cX11_countOf 1 = .ok (.istore_n 2, 1) := by decide +kernel
theorem dX11_countOf_2 : decode cX11_countOf 2 = .ok (.iconst 0, 1) := by decide +kernel
theorem dX11_countOf_3 : decode cX11_countOf 3 = .ok (.istore_n 3, 1) := by decide +kernel
theorem dX11_countOf_4 : decode cX11_countOf 4 = .ok (.iload_n 3, 1) := by decide +kernel
theorem dX11_countOf_5 : decode cX11_countOf 5 = .ok (.aload_n 0, 1) := by decide +kernel
theorem dX11_countOf_6 : decode cX11_countOf 6 = .ok (.getfield 17, 3) := by decide +kernel
theorem dX11_countOf_9 : decode cX11_countOf 9 = .ok (.iload_n 1, 1) := by decide +kernel
theorem dX11_countOf_10 : decode cX11_countOf 10 = .ok (.iaload, 1) := by decide +kernel
theorem dX11_countOf_11 : decode cX11_countOf 11 = .ok (.if_icmp .ge 33, 3) := by decide +kernel
theorem dX11_countOf_14 : decode cX11_countOf 14 = .ok (.iload_n 2, 1) := by decide +kernel
theorem dX11_countOf_15 : decode cX11_countOf 15 = .ok (.aload_n 0, 1) := by decide +kernel
theorem dX11_countOf_16 : decode cX11_countOf 16 = .ok (.getfield 20, 3) := by decide +kernel
theorem dX11_countOf_19 : decode cX11_countOf 19 = .ok (.bipush 48, 2) := by decide +kernel
theorem dX11_countOf_21 : decode cX11_countOf 21 = .ok (.iload_n 1, 1) := by decide +kernel
theorem dX11_countOf_22 : decode cX11_countOf 22 = .ok (.imul, 1) := by decide +kernel
theorem dX11_countOf_23 : decode cX11_countOf 23 = .ok (.iload_n 3, 1) := by decide +kernel
theorem dX11_countOf_24 : decode cX11_countOf 24 = .ok (.iadd, 1) := by decide +kernel
theorem dX11_countOf_25 : decode cX11_countOf 25 = .ok (.iaload, 1) := by decide +kernel
theorem dX11_countOf_26 : decode cX11_countOf 26 = .ok (.bipush (-9), 2) := by decide +kernel
theorem dX11_countOf_28 : decode cX11_countOf 28 = .ok (.if_icmp .ne 7, 3) := by decide +kernel
theorem dX11_countOf_31 : decode cX11_countOf 31 = .ok (.iconst 0, 1) := by decide +kernel
theorem dX11_countOf_32 : decode cX11_countOf 32 = .ok (.goto 4, 3) := by decide +kernel
theorem dX11_countOf_35 : decode cX11_countOf 35 = .ok (.iconst 1, 1) := by decide +kernel
theorem dX11_countOf_36 : decode cX11_countOf 36 = .ok (.iadd, 1) := by decide +kernel
theorem dX11_countOf_37 : decode cX11_countOf 37 = .ok (.istore_n 2, 1) := by decide +kernel
theorem dX11_countOf_38 : decode cX11_countOf 38 = .ok (.iinc 3 1, 3) := by decide +kernel
theorem dX11_countOf_41 : decode cX11_countOf 41 = .ok (.goto (-37), 3) := by decide +kernel
theorem dX11_countOf_44 : decode cX11_countOf 44 = .ok (.iload_n 2, 1) := by decide +kernel
theorem dX11_countOf_45 : decode cX11_countOf 45 = .ok (.ireturn, 1) := by decide +kernel
set_option maxRecDepth 20000 in
theorem ggX11_mean_X11_looked : GoodIn wsX11_mean wsX11_looked := goodIn_r _ [7, 1, 8, 9, 6, 10, 11, 12, 13, 14, 15, 16, 17, 18, 19, 29, 30, 31, 32, 33, 34, 35, 36, 37, 38, 39, 40, 41, 42, 43, 44, 45, 46, 47, 48, 49, 50, 51, 52, 53, 54, 55, 56, 57, 58, 59, 60, 61, 62, 63, 64, 65, 66, 67, 68, 69, 70, 71, 72, 73, 74, 75, 76, 77, 78, 79, 80, 81, 82, 83, 84, 85, 86, 87, 88, 89, 90, 91, 92, 93, 94] (by decide +kernel) (by decide +kernel)
set_option maxRecDepth 20000 in
theorem gX11_mean_X11_looked : GoodIn wsX11_mean (wsV RX11 196 RX11 yX11_looked wsX11_looked) := goodIn_app (goodIn_of _ (by decide +kernel)) ggX11_mean_X11_looked
set_option maxRecDepth 20000 in
theorem ggX11_mean_X11_countOf : GoodIn wsX11_mean wsX11_countOf := goodIn_r _ [23, 1, 2, 29, 30, 31, 32, 33, 34, 35, 36, 37, 38, 39, 40, 41, 42, 43, 44, 45, 46, 47, 48, 49, 50, 51, 52, 53, 54, 55, 56, 57, 58, 59, 60, 61, 62, 63, 64, 65, 66, 67, 68, 69, 70, 71, 72, 73, 74, 75, 76, 77, 78, 79, 80, 81, 82, 83, 84, 85, 86, 87, 88, 89, 90, 91, 92, 93, 94] (by decide +kernel) (by decide +kernel)
set_option maxRecDepth 20000 in
theorem gX11_mean_X11_countOf : GoodIn wsX11_mean (wsV RX11 199 RX11 yX11_countOf wsX11_countOf) := goodIn_app (goodIn_of _ (by decide +kernel)) ggX11_mean_X11_countOf
set_option maxRecDepth 20000 in
theorem ggX11_mean_X11_meets : GoodIn wsX11_mean wsX11_meets := goodIn_r _ [17, 18, 19, 29, 30, 31, 32, 33, 34, 35, 36, 37, 38, 39, 40, 41, 42, 43, 44, 45, 46, 47, 48, 49, 50, 51, 52, 53, 54, 55, 56, 57, 58, 59, 60, 61, 62, 63, 64, 65, 66, 67, 68, 69, 70, 71, 72, 73, 74, 75, 76, 77, 78, 79, 80, 81, 82, 83, 84, 85, 86, 87, 88, 89, 90, 91, 92, 93, 94] (by decide +kernel) (by decide +kernel)
set_option maxRecDepth 20000 in
theorem gX11_mean_X11_meets : GoodIn wsX11_mean (wsV RX11 190 RX11 yX11_meets wsX11_meets) := goodIn_app (goodIn_of _ (by decide +kernel)) ggX11_mean_X11_meets
set_option maxRecDepth 20000 in
theorem ggX11_mean_X11_ask : GoodIn wsX11_mean wsX11_ask := goodIn_r _ [27, 28, 29, 30, 31, 32, 33, 34, 35, 36, 37, 38, 39, 40, 41, 42, 43, 44, 45, 46, 47, 48, 49, 50, 51, 52, 53, 54, 55, 56, 57, 58, 59, 60, 61, 62, 63, 64, 65, 66, 67, 68, 69, 70, 71, 72, 73, 74, 75, 76, 77, 78, 79, 80, 81, 82, 83, 84, 85, 86, 87, 88, 89, 90, 91, 92, 93, 94] (by decide +kernel) (by decide +kernel)
set_option maxRecDepth 20000 in
theorem gX11_mean_X11_ask : GoodIn wsX11_mean (wsV RX11 202 RX11 yX11_ask wsX11_ask) := goodIn_app (goodIn_of _ (by decide +kernel)) ggX11_mean_X11_ask
theorem dX11_mean_0 : decode cX11_mean 0 = .ok (.aload_n 0, 1) := by decide +kernel
theorem dX11_mean_1 : decode cX11_mean 1 = .ok (.iload_n 1, 1) := by decide +kernel
theorem dX11_mean_2 : decode cX11_mean 2 = .ok (.invokevirtual 196, 3) := by decide +kernel
theorem dX11_mean_5 : decode cX11_mean 5 = .ok (.istore_n 2, 1) := by decide +kernel
theorem dX11_mean_6 : decode cX11_mean 6 = .ok (.iload_n 2, 1) := by decide +kernel
theorem dX11_mean_7 : decode cX11_mean 7 = .ok (.ifCond .ge 5, 3) := by decide +kernel
theorem dX11_mean_10 : decode cX11_mean 10 = .ok (.iload_n 2, 1) := by decide +kernel
theorem dX11_mean_11 : decode cX11_mean 11 = .ok (.ireturn, 1) := by decide +kernel
theorem dX11_mean_12 : decode cX11_mean 12 = .ok (.iconst 0, 1) := by decide +kernel
theorem dX11_mean_13 : decode cX11_mean 13 = .ok (.istore_n 3, 1) := by decide +kernel
theorem dX11_mean_14 : decode cX11_mean 14 = .ok (.iconst 0, 1) := by decide +kernel
theorem dX11_mean_15 : decode cX11_mean 15 = .ok (.istore 4, 2) := by decide +kernel
theorem dX11_mean_17 : decode cX11_mean 17 = .ok (.iload 4, 2) := by decide +kernel
theorem dX11_mean_19 : decode cX11_mean 19 = .ok (.aload_n 0, 1) := by decide +kernel
theorem dX11_mean_20 : decode cX11_mean 20 = .ok (.getfield 17, 3) := by decide +kernel
theorem dX11_mean_23 : decode cX11_mean 23 = .ok (.iload_n 1, 1) := by decide +kernel
theorem dX11_mean_24 : decode cX11_mean 24 = .ok (.iaload, 1) := by decide +kernel
theorem dX11_mean_25 : decode cX11_mean 25 = .ok (.if_icmp .ge 45, 3) := by decide +kernel
theorem dX11_mean_28 : decode cX11_mean 28 = .ok (.iload_n 3, 1) := by decide +kernel
theorem dX11_mean_29 : decode cX11_mean 29 = .ok (.aload_n 0, 1) := by decide +kernel
theorem dX11_mean_30 : decode cX11_mean 30 = .ok (.getfield 20, 3) := by decide +kernel
theorem dX11_mean_33 : decode cX11_mean 33 = .ok (.bipush 48, 2) := by decide +kernel
theorem dX11_mean_35 : decode cX11_mean 35 = .ok (.iload_n 1, 1) := by decide +kernel
theorem dX11_mean_36 : decode cX11_mean 36 = .ok (.imul, 1) := by decide +kernel
theorem dX11_mean_37 : decode cX11_mean 37 = .ok (.iload 4, 2) := by decide +kernel
theorem dX11_mean_39 : decode cX11_mean 39 = .ok (.iadd, 1) := by decide +kernel
theorem dX11_mean_40 : decode cX11_mean 40 = .ok (.iaload, 1) := by decide +kernel
theorem dX11_mean_41 : decode cX11_mean 41 = .ok (.bipush (-9), 2) := by decide +kernel
theorem dX11_mean_43 : decode cX11_mean 43 = .ok (.if_icmp .ne 7, 3) := by decide +kernel
theorem dX11_mean_46 : decode cX11_mean 46 = .ok (.iconst 0, 1) := by decide +kernel
theorem dX11_mean_47 : decode cX11_mean 47 = .ok (.goto 15, 3) := by decide +kernel
theorem dX11_mean_50 : decode cX11_mean 50 = .ok (.aload_n 0, 1) := by decide +kernel
theorem dX11_mean_51 : decode cX11_mean 51 = .ok (.getfield 20, 3) := by decide +kernel
theorem dX11_mean_54 : decode cX11_mean 54 = .ok (.bipush 48, 2) := by decide +kernel
theorem dX11_mean_56 : decode cX11_mean 56 = .ok (.iload_n 1, 1) := by decide +kernel
theorem dX11_mean_57 : decode cX11_mean 57 = .ok (.imul, 1) := by decide +kernel
theorem dX11_mean_58 : decode cX11_mean 58 = .ok (.iload 4, 2) := by decide +kernel
theorem dX11_mean_60 : decode cX11_mean 60 = .ok (.iadd, 1) := by decide +kernel
theorem dX11_mean_61 : decode cX11_mean 61 = .ok (.iaload, 1) := by decide +kernel
theorem dX11_mean_62 : decode cX11_mean 62 = .ok (.iadd, 1) := by decide +kernel
theorem dX11_mean_63 : decode cX11_mean 63 = .ok (.istore_n 3, 1) := by decide +kernel
theorem dX11_mean_64 : decode cX11_mean 64 = .ok (.iinc 4 1, 3) := by decide +kernel
theorem dX11_mean_67 : decode cX11_mean 67 = .ok (.goto (-50), 3) := by decide +kernel
theorem dX11_mean_70 : decode cX11_mean 70 = .ok (.aload_n 0, 1) := by decide +kernel
theorem dX11_mean_71 : decode cX11_mean 71 = .ok (.iload_n 1, 1) := by decide +kernel
theorem dX11_mean_72 : decode cX11_mean 72 = .ok (.invokevirtual 199, 3) := by decide +kernel
theorem dX11_mean_75 : decode cX11_mean 75 = .ok (.ifCond .ne 11, 3) := by decide +kernel
theorem dX11_mean_78 : decode cX11_mean 78 = .ok (.aload_n 0, 1) := by decide +kernel
theorem dX11_mean_79 : decode cX11_mean 79 = .ok (.iconst 4, 1) := by decide +kernel
theorem dX11_mean_80 : decode cX11_mean 80 = .ok (.invokevirtual 190, 3) := by decide +kernel
theorem dX11_mean_83 : decode cX11_mean 83 = .ok (.goto 15, 3) := by decide +kernel
theorem dX11_mean_86 : decode cX11_mean 86 = .ok (.aload_n 0, 1) := by decide +kernel
theorem dX11_mean_87 : decode cX11_mean 87 = .ok (.iload_n 3, 1) := by decide +kernel
theorem dX11_mean_88 : decode cX11_mean 88 = .ok (.aload_n 0, 1) := by decide +kernel
theorem dX11_mean_89 : decode cX11_mean 89 = .ok (.iload_n 1, 1) := by decide +kernel
theorem dX11_mean_90 : decode cX11_mean 90 = .ok (.invokevirtual 199, 3) := by decide +kernel
theorem dX11_mean_93 : decode cX11_mean 93 = .ok (.idiv, 1) := by decide +kernel
theorem dX11_mean_94 : decode cX11_mean 94 = .ok (.iconst 1, 1) := by decide +kernel
theorem dX11_mean_95 : decode cX11_mean 95 = .ok (.invokevirtual 202, 3) := by decide +kernel
theorem dX11_mean_98 : decode cX11_mean 98 = .ok (.ireturn, 1) := by decide +kernel
set_option maxRecDepth 20000 in
theorem ggX11_lookedText_X11_isSix : GoodIn wsX11_lookedText wsX11_isSix := goodIn_r _ [5, 6, 7, 4, 8] (by decide +kernel) (by decide +kernel)
set_option maxRecDepth 20000 in
theorem gX11_lookedText_X11_isSix : GoodIn wsX11_lookedText (va_wsS RX11 186 yX11_isSix wsX11_isSix) := goodIn_app (goodIn_of _ (by decide +kernel)) ggX11_lookedText_X11_isSix
set_option maxRecDepth 20000 in
theorem ggX11_lookedText_X11_meets : GoodIn wsX11_lookedText wsX11_meets := goodIn_r _ [12, 13, 14, 15, 16, 17, 18, 19, 20, 21, 22, 23, 24, 25, 26, 27, 28, 29, 30, 31, 32, 33, 34, 35, 36, 37, 38, 39, 40, 41, 42, 43, 44, 45, 46, 47, 48, 49, 50, 51, 52, 53, 54, 55, 56, 57, 58, 59, 60, 61, 62, 63, 64, 65, 66, 67, 68, 69, 70, 71, 72, 73, 74, 75, 76, 77, 78, 79, 80] (by decide +kernel) (by decide +kernel)
set_option maxRecDepth 20000 in
theorem gX11_lookedText_X11_meets : GoodIn wsX11_lookedText (wsV RX11 190 RX11 yX11_meets wsX11_meets) := goodIn_app (goodIn_of _ (by decide +kernel)) ggX11_lookedText_X11_meets
theorem dX11_lookedText_0 : decode cX11_lookedText 0 = .ok (.iload_n 1, 1) := by decide +kernel
theorem dX11_lookedText_1 : decode cX11_lookedText 1 = .ok (.invokestatic 186, 3) := by decide +kernel
theorem dX11_lookedText_4 : decode cX11_lookedText 4 = .ok (.ifCond .ne 7, 3) := by decide +kernel
theorem dX11_lookedText_7 : decode cX11_lookedText 7 = .ok (.iconst (-1), 1) := by decide +kernel
theorem dX11_lookedText_8 : decode cX11_lookedText 8 = .ok (.goto 21, 3) := by decide +kernel
theorem dX11_lookedText_11 : decode cX11_lookedText 11 = .ok (.aload_n 0, 1) := by decide +kernel
theorem dX11_lookedText_12 : decode cX11_lookedText 12 = .ok (.getfield 26, 3) := by decide +kernel
theorem dX11_lookedText_15 : decode cX11_lookedText 15 = .ok (.iload_n 1, 1) := by decide +kernel
theorem dX11_lookedText_16 : decode cX11_lookedText 16 = .ok (.iaload, 1) := by decide +kernel
theorem dX11_lookedText_17 : decode cX11_lookedText 17 = .ok (.ifCond .ge 11, 3) := by decide +kernel
theorem dX11_lookedText_20 : decode cX11_lookedText 20 = .ok (.aload_n 0, 1) := by decide +kernel
theorem dX11_lookedText_21 : decode cX11_lookedText 21 = .ok (.iconst 1, 1) := by decide +kernel
theorem dX11_lookedText_22 : decode cX11_lookedText 22 = .ok (.invokevirtual 190, 3) := by decide +kernel
theorem dX11_lookedText_25 : decode cX11_lookedText 25 = .ok (.goto 4, 3) := by decide +kernel
theorem dX11_lookedText_28 : decode cX11_lookedText 28 = .ok (.iconst 0, 1) := by decide +kernel
theorem dX11_lookedText_29 : decode cX11_lookedText 29 = .ok (.ireturn, 1) := by decide +kernel
set_option maxRecDepth 20000 in
theorem ggX11_text_X11_isSix : GoodIn wsX11_text wsX11_isSix := goodIn_r _ [6, 7, 8, 5, 9] (by decide +kernel) (by decide +kernel)
set_option maxRecDepth 20000 in
theorem gX11_text_X11_isSix : GoodIn wsX11_text (va_wsS RX11 186 yX11_isSix wsX11_isSix) := goodIn_app (goodIn_of _ (by decide +kernel)) ggX11_text_X11_isSix
set_option maxRecDepth 20000 in
theorem ggX11_text_X11_meets : GoodIn wsX11_text wsX11_meets := goodIn_r _ [13, 14, 15, 16, 17, 18, 19, 20, 21, 22, 23, 24, 25, 26, 27, 28, 29, 30, 31, 32, 33, 34, 35, 36, 37, 38, 39, 40, 41, 42, 43, 44, 45, 46, 47, 48, 49, 50, 51, 52, 53, 54, 55, 56, 57, 58, 59, 60, 61, 62, 63, 64, 65, 66, 67, 68, 69, 70, 71, 72, 73, 74, 75, 76, 77, 78, 79, 80, 81] (by decide +kernel) (by decide +kernel)
set_option maxRecDepth 20000 in
theorem gX11_text_X11_meets : GoodIn wsX11_text (wsV RX11 190 RX11 yX11_meets wsX11_meets) := goodIn_app (goodIn_of _ (by decide +kernel)) ggX11_text_X11_meets
theorem dX11_text_0 : decode cX11_text 0 = .ok (.iload_n 1, 1) := by decide +kernel
theorem dX11_text_1 : decode cX11_text 1 = .ok (.invokestatic 186, 3) := by decide +kernel
theorem dX11_text_4 : decode cX11_text 4 = .ok (.ifCond .eq 9, 3) := by decide +kernel
theorem dX11_text_7 : decode cX11_text 7 = .ok (.iload_n 2, 1) := by decide +kernel
theorem dX11_text_8 : decode cX11_text 8 = .ok (.bipush 40, 2) := by decide +kernel
theorem dX11_text_10 : decode cX11_text 10 = .ok (.if_icmp .le 5, 3) := by decide +kernel
theorem dX11_text_13 : decode cX11_text 13 = .ok (.iconst (-1), 1) := by decide +kernel
theorem dX11_text_14 : decode cX11_text 14 = .ok (.ireturn, 1) := by decide +kernel
theorem dX11_text_15 : decode cX11_text 15 = .ok (.iload_n 2, 1) := by decide +kernel
theorem dX11_text_16 : decode cX11_text 16 = .ok (.ifCond .ge 9, 3) := by decide +kernel
theorem dX11_text_19 : decode cX11_text 19 = .ok (.aload_n 0, 1) := by decide +kernel
theorem dX11_text_20 : decode cX11_text 20 = .ok (.iconst 5, 1) := by decide +kernel
theorem dX11_text_21 : decode cX11_text 21 = .ok (.invokevirtual 190, 3) := by decide +kernel
theorem dX11_text_24 : decode cX11_text 24 = .ok (.ireturn, 1) := by decide +kernel
theorem dX11_text_25 : decode cX11_text 25 = .ok (.aload_n 0, 1) := by decide +kernel
theorem dX11_text_26 : decode cX11_text 26 = .ok (.getfield 26, 3) := by decide +kernel
theorem dX11_text_29 : decode cX11_text 29 = .ok (.iload_n 1, 1) := by decide +kernel
theorem dX11_text_30 : decode cX11_text 30 = .ok (.iload_n 2, 1) := by decide +kernel
theorem dX11_text_31 : decode cX11_text 31 = .ok (.iastore, 1) := by decide +kernel
theorem dX11_text_32 : decode cX11_text 32 = .ok (.iconst 0, 1) := by decide +kernel
theorem dX11_text_33 : decode cX11_text 33 = .ok (.istore_n 3, 1) := by decide +kernel
theorem dX11_text_34 : decode cX11_text 34 = .ok (.iload_n 3, 1) := by decide +kernel
theorem dX11_text_35 : decode cX11_text 35 = .ok (.bipush 40, 2) := by decide +kernel
theorem dX11_text_37 : decode cX11_text 37 = .ok (.if_icmp .ge 22, 3) := by decide +kernel
theorem dX11_text_40 : decode cX11_text 40 = .ok (.aload_n 0, 1) := by decide +kernel
theorem dX11_text_41 : decode cX11_text 41 = .ok (.getfield 29, 3) := by decide +kernel
theorem dX11_text_44 : decode cX11_text 44 = .ok (.bipush 40, 2) := by decide +kernel
theorem dX11_text_46 : decode cX11_text 46 = .ok (.iload_n 1, 1) := by decide +kernel
theorem dX11_text_47 : decode cX11_text 47 = .ok (.imul, 1) := by decide +kernel
theorem dX11_text_48 : decode cX11_text 48 = .ok (.iload_n 3, 1) := by decide +kernel
theorem dX11_text_49 : decode cX11_text 49 = .ok (.iadd, 1) := by decide +kernel
theorem dX11_text_50 : decode cX11_text 50 = .ok (.bipush 32, 2) := by decide +kernel
theorem dX11_text_52 : decode cX11_text 52 = .ok (.iastore, 1) := by decide +kernel
theorem dX11_text_53 : decode cX11_text 53 = .ok (.iinc 3 1, 3) := by decide +kernel
theorem dX11_text_56 : decode cX11_text 56 = .ok (.goto (-22), 3) := by decide +kernel
theorem dX11_text_59 : decode cX11_text 59 = .ok (.iload_n 2, 1) := by decide +kernel
theorem dX11_text_60 : decode cX11_text 60 = .ok (.ireturn, 1) := by decide +kernel
set_option maxRecDepth 20000 in
theorem ggX11_put_X11_lookedText : GoodIn wsX11_put wsX11_lookedText := goodIn_r _ [7, 1, 8, 9, 6, 10, 11, 12, 13, 14, 15, 16, 17, 18, 19, 20, 21, 22, 23, 24, 25, 26, 27, 28, 29, 30, 31, 32, 33, 34, 35, 36, 37, 38, 39, 40, 41, 42, 43, 44, 45, 46, 47, 48, 49, 50, 51, 52, 53, 54, 55, 56, 57, 58, 59, 60, 61, 62, 63, 64, 65, 66, 67, 68, 69, 70, 71, 72, 73, 74, 75, 76, 77, 78, 79, 80, 81, 82, 83, 84, 85] (by decide +kernel) (by decide +kernel)
set_option maxRecDepth 20000 in
theorem gX11_put_X11_lookedText : GoodIn wsX11_put (wsV RX11 206 RX11 yX11_lookedText wsX11_lookedText) := goodIn_app (goodIn_of _ (by decide +kernel)) ggX11_put_X11_lookedText
set_option maxRecDepth 20000 in
theorem ggX11_put_X11_in : GoodIn wsX11_put wsX11_in := goodIn_r _ [13] (by decide +kernel) (by decide +kernel)
set_option maxRecDepth 20000 in
theorem gX11_put_X11_in : GoodIn wsX11_put (va_wsS RX11 182 yX11_in wsX11_in) := goodIn_app (goodIn_of _ (by decide +kernel)) ggX11_put_X11_in
set_option maxRecDepth 20000 in
theorem ggX11_put_X11_meets : GoodIn wsX11_put wsX11_meets := goodIn_r _ [17, 18, 19, 20, 21, 22, 23, 24, 25, 26, 27, 28, 29, 30, 31, 32, 33, 34, 35, 36, 37, 38, 39, 40, 41, 42, 43, 44, 45, 46, 47, 48, 49, 50, 51, 52, 53, 54, 55, 56, 57, 58, 59, 60, 61, 62, 63, 64, 65, 66, 67, 68, 69, 70, 71, 72, 73, 74, 75, 76, 77, 78, 79, 80, 81, 82, 83, 84, 85] (by decide +kernel) (by decide +kernel)
set_option maxRecDepth 20000 in
theorem gX11_put_X11_meets : GoodIn wsX11_put (wsV RX11 190 RX11 yX11_meets wsX11_meets) := goodIn_app (goodIn_of _ (by decide +kernel)) ggX11_put_X11_meets
theorem dX11_put_0 : decode cX11_put 0 = .ok (.aload_n 0, 1) := by decide +kernel
theorem dX11_put_1 : decode cX11_put 1 = .ok (.iload_n 1, 1) := by decide +kernel
theorem dX11_put_2 : decode cX11_put 2 = .ok (.invokevirtual 206, 3) := by decide +kernel
theorem dX11_put_5 : decode cX11_put 5 = .ok (.istore 4, 2) := by decide +kernel
theorem dX11_put_7 : decode cX11_put 7 = .ok (.iload 4, 2) := by decide +kernel
theorem dX11_put_9 : decode cX11_put 9 = .ok (.ifCond .ge 6, 3) := by decide +kernel
theorem dX11_put_12 : decode cX11_put 12 = .ok (.iload 4, 2) := by decide +kernel
theorem dX11_put_14 : decode cX11_put 14 = .ok (.ireturn, 1) := by decide +kernel
theorem dX11_put_15 : decode cX11_put 15 = .ok (.iload_n 2, 1) := by decide +kernel
theorem dX11_put_16 : decode cX11_put 16 = .ok (.iconst 0, 1) := by decide +kernel
theorem dX11_put_17 : decode cX11_put 17 = .ok (.aload_n 0, 1) := by decide +kernel
theorem dX11_put_18 : decode cX11_put 18 = .ok (.getfield 26, 3) := by decide +kernel
theorem dX11_put_21 : decode cX11_put 21 = .ok (.iload_n 1, 1) := by decide +kernel
theorem dX11_put_22 : decode cX11_put 22 = .ok (.iaload, 1) := by decide +kernel
theorem dX11_put_23 : decode cX11_put 23 = .ok (.iconst 1, 1) := by decide +kernel
theorem dX11_put_24 : decode cX11_put 24 = .ok (.isub, 1) := by decide +kernel
theorem dX11_put_25 : decode cX11_put 25 = .ok (.invokestatic 182, 3) := by decide +kernel
theorem dX11_put_28 : decode cX11_put 28 = .ok (.ifCond .ne 9, 3) := by decide +kernel
theorem dX11_put_31 : decode cX11_put 31 = .ok (.aload_n 0, 1) := by decide +kernel
theorem dX11_put_32 : decode cX11_put 32 = .ok (.iconst 2, 1) := by decide +kernel
theorem dX11_put_33 : decode cX11_put 33 = .ok (.invokevirtual 190, 3) := by decide +kernel
theorem dX11_put_36 : decode cX11_put 36 = .ok (.ireturn, 1) := by decide +kernel
theorem dX11_put_37 : decode cX11_put 37 = .ok (.aload_n 0, 1) := by decide +kernel
theorem dX11_put_38 : decode cX11_put 38 = .ok (.getfield 29, 3) := by decide +kernel
theorem dX11_put_41 : decode cX11_put 41 = .ok (.bipush 40, 2) := by decide +kernel
theorem dX11_put_43 : decode cX11_put 43 = .ok (.iload_n 1, 1) := by decide +kernel
theorem dX11_put_44 : decode cX11_put 44 = .ok (.imul, 1) := by decide +kernel
theorem dX11_put_45 : decode cX11_put 45 = .ok (.iload_n 2, 1) := by decide +kernel
theorem dX11_put_46 : decode cX11_put 46 = .ok (.iadd, 1) := by decide +kernel
theorem dX11_put_47 : decode cX11_put 47 = .ok (.iaload, 1) := by decide +kernel
theorem dX11_put_48 : decode cX11_put 48 = .ok (.istore 5, 2) := by decide +kernel
theorem dX11_put_50 : decode cX11_put 50 = .ok (.aload_n 0, 1) := by decide +kernel
theorem dX11_put_51 : decode cX11_put 51 = .ok (.getfield 29, 3) := by decide +kernel
theorem dX11_put_54 : decode cX11_put 54 = .ok (.bipush 40, 2) := by decide +kernel
theorem dX11_put_56 : decode cX11_put 56 = .ok (.iload_n 1, 1) := by decide +kernel
theorem dX11_put_57 : decode cX11_put 57 = .ok (.imul, 1) := by decide +kernel
theorem dX11_put_58 : decode cX11_put 58 = .ok (.iload_n 2, 1) := by decide +kernel
theorem dX11_put_59 : decode cX11_put 59 = .ok (.iadd, 1) := by decide +kernel
theorem dX11_put_60 : decode cX11_put 60 = .ok (.iload_n 3, 1) := by decide +kernel
theorem dX11_put_61 : decode cX11_put 61 = .ok (.i2b, 1) := by decide +kernel
theorem dX11_put_62 : decode cX11_put 62 = .ok (.iastore, 1) := by decide +kernel
theorem dX11_put_63 : decode cX11_put 63 = .ok (.iload 5, 2) := by decide +kernel
theorem dX11_put_65 : decode cX11_put 65 = .ok (.sipush 1000, 3) := by decide +kernel
theorem dX11_put_68 : decode cX11_put 68 = .ok (.iadd, 1) := by decide +kernel
theorem dX11_put_69 : decode cX11_put 69 = .ok (.ireturn, 1) := by decide +kernel
set_option maxRecDepth 20000 in
theorem ggX11_burn_X11_lookedText : GoodIn wsX11_burn wsX11_lookedText := goodIn_r _ [6, 1, 7, 8, 5, 9, 10, 11, 12, 13, 14, 15, 16, 17, 18, 19, 20, 21, 22, 23, 24, 25, 26, 27, 28, 29, 30, 31, 32, 33, 34, 35, 36, 37, 38, 39, 40, 41, 42, 43, 44, 45, 46, 47, 48, 49, 50, 51, 52, 53, 54, 55, 56, 57, 58, 59, 60, 61, 62, 63, 64, 65, 66, 67, 68, 69, 70, 71, 72, 73, 74, 75, 76, 77, 78, 79, 80, 81, 82, 83, 84] (by decide +kernel) (by decide +kernel)
set_option maxRecDepth 20000 in
theorem gX11_burn_X11_lookedText : GoodIn wsX11_burn (wsV RX11 206 RX11 yX11_lookedText wsX11_lookedText) := goodIn_app (goodIn_of _ (by decide +kernel)) ggX11_burn_X11_lookedText
theorem dX11_burn_0 : decode cX11_burn 0 = .ok (.aload_n 0, 1) := by decide +kernel
theorem dX11_burn_1 : decode cX11_burn 1 = .ok (.iload_n 1, 1) := by decide +kernel
theorem dX11_burn_2 : decode cX11_burn 2 = .ok (.invokevirtual 206, 3) := by decide +kernel
theorem dX11_burn_5 : decode cX11_burn 5 = .ok (.istore_n 2, 1) := by decide +kernel
theorem dX11_burn_6 : decode cX11_burn 6 = .ok (.iload_n 2, 1) := by decide +kernel
theorem dX11_burn_7 : decode cX11_burn 7 = .ok (.ifCond .ge 5, 3) := by decide +kernel
theorem dX11_burn_10 : decode cX11_burn 10 = .ok (.iload_n 2, 1) := by decide +kernel
theorem dX11_burn_11 : decode cX11_burn 11 = .ok (.ireturn, 1) := by decide +kernel
theorem dX11_burn_12 : decode cX11_burn 12 = .ok (.aload_n 0, 1) := by decide +kernel
theorem dX11_burn_13 : decode cX11_burn 13 = .ok (.getfield 26, 3) := by decide +kernel
theorem dX11_burn_16 : decode cX11_burn 16 = .ok (.iload_n 1, 1) := by decide +kernel
theorem dX11_burn_17 : decode cX11_burn 17 = .ok (.bipush (-9), 2) := by decide +kernel
theorem dX11_burn_19 : decode cX11_burn 19 = .ok (.iastore, 1) := by decide +kernel
theorem dX11_burn_20 : decode cX11_burn 20 = .ok (.iconst 1, 1) := by decide +kernel
theorem dX11_burn_21 : decode cX11_burn 21 = .ok (.ireturn, 1) := by decide +kernel
theorem dX11_isLetter_0 : decode cX11_isLetter 0 = .ok (.iload_n 0, 1) := by decide +kernel
theorem dX11_isLetter_1 : decode cX11_isLetter 1 = .ok (.bipush 87, 2) := by decide +kernel
theorem dX11_isLetter_3 : decode cX11_isLetter 3 = .ok (.if_icmp .eq 39, 3) := by decide +kernel
theorem dX11_isLetter_6 : decode cX11_isLetter 6 = .ok (.iload_n 0, 1) := by decide +kernel
theorem dX11_isLetter_7 : decode cX11_isLetter 7 = .ok (.bipush 86, 2) := by decide +kernel
theorem dX11_isLetter_9 : decode cX11_isLetter 9 = .ok (.if_icmp .eq 33, 3) := by decide +kernel
theorem dX11_isLetter_12 : decode cX11_isLetter 12 = .ok (.iload_n 0, 1) := by decide +kernel
theorem dX11_isLetter_13 : decode cX11_isLetter 13 = .ok (.bipush 83, 2) := by decide +kernel
theorem dX11_isLetter_15 : decode cX11_isLetter 15 = .ok (.if_icmp .eq 27, 3) := by decide +kernel
theorem dX11_isLetter_18 : decode cX11_isLetter 18 = .ok (.iload_n 0, 1) := by decide +kernel
theorem dX11_isLetter_19 : decode cX11_isLetter 19 = .ok (.bipush 71, 2) := by decide +kernel
theorem dX11_isLetter_21 : decode cX11_isLetter 21 = .ok (.if_icmp .eq 21, 3) := by decide +kernel
theorem dX11_isLetter_24 : decode cX11_isLetter 24 = .ok (.iload_n 0, 1) := by decide +kernel
theorem dX11_isLetter_25 : decode cX11_isLetter 25 = .ok (.bipush 84, 2) := by decide +kernel
theorem dX11_isLetter_27 : decode cX11_isLetter 27 = .ok (.if_icmp .eq 15, 3) := by decide +kernel
theorem dX11_isLetter_30 : decode cX11_isLetter 30 = .ok (.iload_n 0, 1) := by decide +kernel
theorem dX11_isLetter_31 : decode cX11_isLetter 31 = .ok (.bipush 80, 2) := by decide +kernel
theorem dX11_isLetter_33 : decode cX11_isLetter 33 = .ok (.if_icmp .eq 9, 3) := by decide +kernel
theorem dX11_isLetter_36 : decode cX11_isLetter 36 = .ok (.iload_n 0, 1) := by decide +kernel
theorem dX11_isLetter_37 : decode cX11_isLetter 37 = .ok (.bipush 82, 2) := by decide +kernel
theorem dX11_isLetter_39 : decode cX11_isLetter 39 = .ok (.if_icmp .ne 7, 3) := by decide +kernel
theorem dX11_isLetter_42 : decode cX11_isLetter 42 = .ok (.iconst 1, 1) := by decide +kernel
theorem dX11_isLetter_43 : decode cX11_isLetter 43 = .ok (.goto 4, 3) := by decide +kernel
theorem dX11_isLetter_46 : decode cX11_isLetter 46 = .ok (.iconst 0, 1) := by decide +kernel
theorem dX11_isLetter_47 : decode cX11_isLetter 47 = .ok (.ireturn, 1) := by decide +kernel
set_option maxRecDepth 20000 in
theorem ggX11_may_X11_in : GoodIn wsX11_may wsX11_in := goodIn_r _ [4] (by decide +kernel) (by decide +kernel)
set_option maxRecDepth 20000 in
theorem gX11_may_X11_in : GoodIn wsX11_may (va_wsS RX11 182 yX11_in wsX11_in) := goodIn_app (goodIn_of _ (by decide +kernel)) ggX11_may_X11_in
theorem dX11_may_0 : decode cX11_may 0 = .ok (.iload_n 0, 1) := by decide +kernel
theorem dX11_may_1 : decode cX11_may 1 = .ok (.tableswitch 128 71 87 #[100, 128, 128, 128, 128, 128, 128, 128, 128, 120, 128, 128, 92, 109, 128, 83, 83], 83) := by decide +kernel
theorem dX11_may_84 : decode cX11_may 84 = .ok (.iload_n 1, 1) := by decide +kernel
theorem dX11_may_85 : decode cX11_may 85 = .ok (.bipush (-50), 2) := by decide +kernel
theorem dX11_may_87 : decode cX11_may 87 = .ok (.bipush 50, 2) := by decide +kernel
theorem dX11_may_89 : decode cX11_may 89 = .ok (.invokestatic 182, 3) := by decide +kernel
theorem dX11_may_92 : decode cX11_may 92 = .ok (.ireturn, 1) := by decide +kernel
theorem dX11_may_93 : decode cX11_may 93 = .ok (.iload_n 1, 1) := by decide +kernel
theorem dX11_may_94 : decode cX11_may 94 = .ok (.iconst 0, 1) := by decide +kernel
theorem dX11_may_95 : decode cX11_may 95 = .ok (.bipush 24, 2) := by decide +kernel
theorem dX11_may_97 : decode cX11_may 97 = .ok (.invokestatic 182, 3) := by decide +kernel
theorem dX11_may_100 : decode cX11_may 100 = .ok (.ireturn, 1) := by decide +kernel
theorem dX11_may_101 : decode cX11_may 101 = .ok (.iload_n 1, 1) := by decide +kernel
theorem dX11_may_102 : decode cX11_may 102 = .ok (.iconst 0, 1) := by decide +kernel
theorem dX11_may_103 : decode cX11_may 103 = .ok (.sipush 9999, 3) := by decide +kernel
theorem dX11_may_106 : decode cX11_may 106 = .ok (.invokestatic 182, 3) := by decide +kernel
theorem dX11_may_109 : decode cX11_may 109 = .ok (.ireturn, 1) := by decide +kernel
theorem dX11_may_110 : decode cX11_may 110 = .ok (.iload_n 1, 1) := by decide +kernel
theorem dX11_may_111 : decode cX11_may 111 = .ok (.sipush (-500), 3) := by decide +kernel
theorem dX11_may_114 : decode cX11_may 114 = .ok (.sipush 500, 3) := by decide +kernel
theorem dX11_may_117 : decode cX11_may 117 = .ok (.invokestatic 182, 3) := by decide +kernel
theorem dX11_may_120 : decode cX11_may 120 = .ok (.ireturn, 1) := by decide +kernel
theorem dX11_may_121 : decode cX11_may 121 = .ok (.iload_n 1, 1) := by decide +kernel
theorem dX11_may_122 : decode cX11_may 122 = .ok (.iconst 1, 1) := by decide +kernel
theorem dX11_may_123 : decode cX11_may 123 = .ok (.bipush 8, 2) := by decide +kernel
theorem dX11_may_125 : decode cX11_may 125 = .ok (.invokestatic 182, 3) := by decide +kernel
theorem dX11_may_128 : decode cX11_may 128 = .ok (.ireturn, 1) := by decide +kernel
theorem dX11_may_129 : decode cX11_may 129 = .ok (.iload_n 1, 1) := by decide +kernel
theorem dX11_may_130 : decode cX11_may 130 = .ok (.iconst 0, 1) := by decide +kernel
theorem dX11_may_131 : decode cX11_may 131 = .ok (.sipush 1000, 3) := by decide +kernel
theorem dX11_may_134 : decode cX11_may 134 = .ok (.invokestatic 182, 3) := by decide +kernel
theorem dX11_may_137 : decode cX11_may 137 = .ok (.ireturn, 1) := by decide +kernel
set_option maxRecDepth 20000 in
theorem ggX11_reads_X11_isLetter : GoodIn wsX11_reads wsX11_isLetter := goodIn_r _ [7] (by decide +kernel) (by decide +kernel)
set_option maxRecDepth 20000 in
theorem gX11_reads_X11_isLetter : GoodIn wsX11_reads (va_wsS RX11 212 yX11_isLetter wsX11_isLetter) := goodIn_app (goodIn_of _ (by decide +kernel)) ggX11_reads_X11_isLetter
set_option maxRecDepth 20000 in
theorem ggX11_reads_X11_in : GoodIn wsX11_reads wsX11_in := goodIn_r _ [10] (by decide +kernel) (by decide +kernel)
set_option maxRecDepth 20000 in
theorem gX11_reads_X11_in : GoodIn wsX11_reads (va_wsS RX11 182 yX11_in wsX11_in) := goodIn_app (goodIn_of _ (by decide +kernel)) ggX11_reads_X11_in
set_option maxRecDepth 20000 in
theorem ggX11_reads_X11_may : GoodIn wsX11_reads wsX11_may := goodIn_r _ [13, 8, 9, 6, 10] (by decide +kernel) (by decide +kernel)
set_option maxRecDepth 20000 in
theorem gX11_reads_X11_may : GoodIn wsX11_reads (va_wsS RX11 215 yX11_may wsX11_may) := goodIn_app (goodIn_of _ (by decide +kernel)) ggX11_reads_X11_may
theorem dX11_reads_0 : decode cX11_reads 0 = .ok (.aload_n 0, 1) := by decide +kernel
theorem dX11_reads_1 : decode cX11_reads 1 = .ok (.iconst 0, 1) := by decide +kernel
theorem dX11_reads_2 : decode cX11_reads 2 = .ok (.putfield 209, 3) := by decide +kernel
theorem dX11_reads_5 : decode cX11_reads 5 = .ok (.iconst 0, 1) := by decide +kernel
theorem dX11_reads_6 : decode cX11_reads 6 = .ok (.istore 4, 2) := by decide +kernel
theorem dX11_reads_8 : decode cX11_reads 8 = .ok (.iconst 0, 1) := by decide +kernel
theorem dX11_reads_9 : decode cX11_reads 9 = .ok (.istore 5, 2) := by decide +kernel
theorem dX11_reads_11 : decode cX11_reads 11 = .ok (.iload 5, 2) := by decide +kernel
theorem dX11_reads_13 : decode cX11_reads 13 = .ok (.iload_n 3, 1) := by decide +kernel
theorem dX11_reads_14 : decode cX11_reads 14 = .ok (.if_icmp .ge 250, 3) := by decide +kernel
theorem dX11_reads_17 : decode cX11_reads 17 = .ok (.aload_n 1, 1) := by decide +kernel
theorem dX11_reads_18 : decode cX11_reads 18 = .ok (.iload_n 2, 1) := by decide +kernel
theorem dX11_reads_19 : decode cX11_reads 19 = .ok (.iload 5, 2) := by decide +kernel
theorem dX11_reads_21 : decode cX11_reads 21 = .ok (.iadd, 1) := by decide +kernel
theorem dX11_reads_22 : decode cX11_reads 22 = .ok (.iaload, 1) := by decide +kernel
theorem dX11_reads_23 : decode cX11_reads 23 = .ok (.istore 6, 2) := by decide +kernel
theorem dX11_reads_25 : decode cX11_reads 25 = .ok (.iload 6, 2) := by decide +kernel
theorem dX11_reads_27 : decode cX11_reads 27 = .ok (.bipush 32, 2) := by decide +kernel
theorem dX11_reads_29 : decode cX11_reads 29 = .ok (.if_icmp .ne 9, 3) := by decide +kernel
theorem dX11_reads_32 : decode cX11_reads 32 = .ok (.iinc 5 1, 3) := by decide +kernel
theorem dX11_reads_35 : decode cX11_reads 35 = .ok (.goto (-24), 3) := by decide +kernel
theorem dX11_reads_38 : decode cX11_reads 38 = .ok (.iload 6, 2) := by decide +kernel
theorem dX11_reads_40 : decode cX11_reads 40 = .ok (.invokestatic 212, 3) := by decide +kernel
theorem dX11_reads_43 : decode cX11_reads 43 = .ok (.ifCond .ne 6, 3) := by decide +kernel
theorem dX11_reads_46 : decode cX11_reads 46 = .ok (.iload 5, 2) := by decide +kernel
theorem dX11_reads_48 : decode cX11_reads 48 = .ok (.ireturn, 1) := by decide +kernel
theorem dX11_reads_49 : decode cX11_reads 49 = .ok (.iload 5, 2) := by decide +kernel
theorem dX11_reads_51 : decode cX11_reads 51 = .ok (.istore 7, 2) := by decide +kernel
theorem dX11_reads_53 : decode cX11_reads 53 = .ok (.iinc 5 1, 3) := by decide +kernel
theorem dX11_reads_56 : decode cX11_reads 56 = .ok (.iload 5, 2) := by decide +kernel
theorem dX11_reads_58 : decode cX11_reads 58 = .ok (.iload_n 3, 1) := by decide +kernel
theorem dX11_reads_59 : decode cX11_reads 59 = .ok (.if_icmp .ge 18, 3) := by decide +kernel
theorem dX11_reads_62 : decode cX11_reads 62 = .ok (.aload_n 1, 1) := by decide +kernel
theorem dX11_reads_63 : decode cX11_reads 63 = .ok (.iload_n 2, 1) := by decide +kernel
theorem dX11_reads_64 : decode cX11_reads 64 = .ok (.iload 5, 2) := by decide +kernel
theorem dX11_reads_66 : decode cX11_reads 66 = .ok (.iadd, 1) := by decide +kernel
theorem dX11_reads_67 : decode cX11_reads 67 = .ok (.iaload, 1) := by decide +kernel
theorem dX11_reads_68 : decode cX11_reads 68 = .ok (.bipush 45, 2) := by decide +kernel
theorem dX11_reads_70 : decode cX11_reads 70 = .ok (.if_icmp .ne 7, 3) := by decide +kernel
theorem dX11_reads_73 : decode cX11_reads 73 = .ok (.iconst 1, 1) := by decide +kernel
theorem dX11_reads_74 : decode cX11_reads 74 = .ok (.goto 4, 3) := by decide +kernel
theorem dX11_reads_77 : decode cX11_reads 77 = .ok (.iconst 0, 1) := by decide +kernel
theorem dX11_reads_78 : decode cX11_reads 78 = .ok (.istore 8, 2) := by decide +kernel
theorem dX11_reads_80 : decode cX11_reads 80 = .ok (.iload 5, 2) := by decide +kernel
theorem dX11_reads_82 : decode cX11_reads 82 = .ok (.iload 8, 2) := by decide +kernel
theorem dX11_reads_84 : decode cX11_reads 84 = .ok (.ifCond .eq 7, 3) := by decide +kernel
theorem dX11_reads_87 : decode cX11_reads 87 = .ok (.iconst 1, 1) := by decide +kernel
theorem dX11_reads_88 : decode cX11_reads 88 = .ok (.goto 4, 3) := by decide +kernel
theorem dX11_reads_91 : decode cX11_reads 91 = .ok (.iconst 0, 1) := by decide +kernel
theorem dX11_reads_92 : decode cX11_reads 92 = .ok (.iadd, 1) := by decide +kernel
theorem dX11_reads_93 : decode cX11_reads 93 = .ok (.istore 5, 2) := by decide +kernel
theorem dX11_reads_95 : decode cX11_reads 95 = .ok (.iconst 0, 1) := by decide +kernel
theorem dX11_reads_96 : decode cX11_reads 96 = .ok (.istore 9, 2) := by decide +kernel
theorem dX11_reads_98 : decode cX11_reads 98 = .ok (.iconst 0, 1) := by decide +kernel
theorem dX11_reads_99 : decode cX11_reads 99 = .ok (.istore 10, 2) := by decide +kernel
theorem dX11_reads_101 : decode cX11_reads 101 = .ok (.iload 5, 2) := by decide +kernel
theorem dX11_reads_103 : decode cX11_reads 103 = .ok (.iload_n 3, 1) := by decide +kernel
theorem dX11_reads_104 : decode cX11_reads 104 = .ok (.if_icmp .ge 54, 3) := by decide +kernel
theorem dX11_reads_107 : decode cX11_reads 107 = .ok (.aload_n 1, 1) := by decide +kernel
theorem dX11_reads_108 : decode cX11_reads 108 = .ok (.iload_n 2, 1) := by decide +kernel
theorem dX11_reads_109 : decode cX11_reads 109 = .ok (.iload 5, 2) := by decide +kernel
theorem dX11_reads_111 : decode cX11_reads 111 = .ok (.iadd, 1) := by decide +kernel
theorem dX11_reads_112 : decode cX11_reads 112 = .ok (.iaload, 1) := by decide +kernel
theorem dX11_reads_113 : decode cX11_reads 113 = .ok (.bipush 48, 2) := by decide +kernel
theorem dX11_reads_115 : decode cX11_reads 115 = .ok (.bipush 57, 2) := by decide +kernel
theorem dX11_reads_117 : decode cX11_reads 117 = .ok (.invokestatic 182, 3) := by decide +kernel
theorem dX11_reads_120 : decode cX11_reads 120 = .ok (.ifCond .eq 38, 3) := by decide +kernel
theorem dX11_reads_123 : decode cX11_reads 123 = .ok (.iload 9, 2) := by decide +kernel
theorem dX11_reads_125 : decode cX11_reads 125 = .ok (.iconst 4, 1) := by decide +kernel
theorem dX11_reads_126 : decode cX11_reads 126 = .ok (.if_icmp .ne 6, 3) := by decide +kernel
theorem dX11_reads_129 : decode cX11_reads 129 = .ok (.iload 5, 2) := by decide +kernel
theorem dX11_reads_131 : decode cX11_reads 131 = .ok (.ireturn, 1) := by decide +kernel
theorem dX11_reads_132 : decode cX11_reads 132 = .ok (.bipush 10, 2) := by decide +kernel
theorem dX11_reads_134 : decode cX11_reads 134 = .ok (.iload 10, 2) := by decide +kernel
theorem dX11_reads_136 : decode cX11_reads 136 = .ok (.imul, 1) := by decide +kernel
theorem dX11_reads_137 : decode cX11_reads 137 = .ok (.aload_n 1, 1) := by decide +kernel
theorem dX11_reads_138 : decode cX11_reads 138 = .ok (.iload_n 2, 1) := by decide +kernel
theorem dX11_reads_139 : decode cX11_reads 139 = .ok (.iload 5, 2) := by decide +kernel
theorem dX11_reads_141 : decode cX11_reads 141 = .ok (.iadd, 1) := by decide +kernel
theorem dX11_reads_142 : decode cX11_reads 142 = .ok (.iaload, 1) := by decide +kernel
theorem dX11_reads_143 : decode cX11_reads 143 = .ok (.iadd, 1) := by decide +kernel
theorem dX11_reads_144 : decode cX11_reads 144 = .ok (.bipush 48, 2) := by decide +kernel
theorem dX11_reads_146 : decode cX11_reads 146 = .ok (.isub, 1) := by decide +kernel
theorem dX11_reads_147 : decode cX11_reads 147 = .ok (.istore 10, 2) := by decide +kernel
theorem dX11_reads_149 : decode cX11_reads 149 = .ok (.iinc 9 1, 3) := by decide +kernel
theorem dX11_reads_152 : decode cX11_reads 152 = .ok (.iinc 5 1, 3) := by decide +kernel
theorem dX11_reads_155 : decode cX11_reads 155 = .ok (.goto (-54), 3) := by decide +kernel
theorem dX11_reads_158 : decode cX11_reads 158 = .ok (.iload 9, 2) := by decide +kernel
theorem dX11_reads_160 : decode cX11_reads 160 = .ok (.ifCond .ne 6, 3) := by decide +kernel
theorem dX11_reads_163 : decode cX11_reads 163 = .ok (.iload 5, 2) := by decide +kernel
theorem dX11_reads_165 : decode cX11_reads 165 = .ok (.ireturn, 1) := by decide +kernel
theorem dX11_reads_166 : decode cX11_reads 166 = .ok (.iload 8, 2) := by decide +kernel
theorem dX11_reads_168 : decode cX11_reads 168 = .ok (.ifCond .eq 9, 3) := by decide +kernel
theorem dX11_reads_171 : decode cX11_reads 171 = .ok (.iload 10, 2) := by decide +kernel
theorem dX11_reads_173 : decode cX11_reads 173 = .ok (.ineg, 1) := by decide +kernel
theorem dX11_reads_174 : decode cX11_reads 174 = .ok (.goto 5, 3) := by decide +kernel
theorem dX11_reads_177 : decode cX11_reads 177 = .ok (.iload 10, 2) := by decide +kernel
theorem dX11_reads_179 : decode cX11_reads 179 = .ok (.istore 10, 2) := by decide +kernel
theorem dX11_reads_181 : decode cX11_reads 181 = .ok (.iload 4, 2) := by decide +kernel
theorem dX11_reads_183 : decode cX11_reads 183 = .ok (.iload 6, 2) := by decide +kernel
theorem dX11_reads_185 : decode cX11_reads 185 = .ok (.bipush 83, 2) := by decide +kernel
theorem dX11_reads_187 : decode cX11_reads 187 = .ok (.if_icmp .ne 18, 3) := by decide +kernel
theorem dX11_reads_190 : decode cX11_reads 190 = .ok (.iload 6, 2) := by decide +kernel
theorem dX11_reads_192 : decode cX11_reads 192 = .ok (.iload 10, 2) := by decide +kernel
theorem dX11_reads_194 : decode cX11_reads 194 = .ok (.invokestatic 215, 3) := by decide +kernel
theorem dX11_reads_197 : decode cX11_reads 197 = .ok (.ifCond .eq 8, 3) := by decide +kernel
theorem dX11_reads_200 : decode cX11_reads 200 = .ok (.iload 10, 2) := by decide +kernel
theorem dX11_reads_202 : decode cX11_reads 202 = .ok (.goto 4, 3) := by decide +kernel
theorem dX11_reads_205 : decode cX11_reads 205 = .ok (.iconst 0, 1) := by decide +kernel
theorem dX11_reads_206 : decode cX11_reads 206 = .ok (.iadd, 1) := by decide +kernel
theorem dX11_reads_207 : decode cX11_reads 207 = .ok (.istore 4, 2) := by decide +kernel
theorem dX11_reads_209 : decode cX11_reads 209 = .ok (.iload 6, 2) := by decide +kernel
theorem dX11_reads_211 : decode cX11_reads 211 = .ok (.iload 10, 2) := by decide +kernel
theorem dX11_reads_213 : decode cX11_reads 213 = .ok (.invokestatic 215, 3) := by decide +kernel
theorem dX11_reads_216 : decode cX11_reads 216 = .ok (.ifCond .eq 10, 3) := by decide +kernel
theorem dX11_reads_219 : decode cX11_reads 219 = .ok (.iload 4, 2) := by decide +kernel
theorem dX11_reads_221 : decode cX11_reads 221 = .ok (.bipush 24, 2) := by decide +kernel
theorem dX11_reads_223 : decode cX11_reads 223 = .ok (.if_icmp .le 6, 3) := by decide +kernel
theorem dX11_reads_226 : decode cX11_reads 226 = .ok (.iload 7, 2) := by decide +kernel
theorem dX11_reads_228 : decode cX11_reads 228 = .ok (.ireturn, 1) := by decide +kernel
theorem dX11_reads_229 : decode cX11_reads 229 = .ok (.aload_n 0, 1) := by decide +kernel
theorem dX11_reads_230 : decode cX11_reads 230 = .ok (.getfield 32, 3) := by decide +kernel
theorem dX11_reads_233 : decode cX11_reads 233 = .ok (.aload_n 0, 1) := by decide +kernel
theorem dX11_reads_234 : decode cX11_reads 234 = .ok (.getfield 209, 3) := by decide +kernel
theorem dX11_reads_237 : decode cX11_reads 237 = .ok (.iload 6, 2) := by decide +kernel
theorem dX11_reads_239 : decode cX11_reads 239 = .ok (.iastore, 1) := by decide +kernel
theorem dX11_reads_240 : decode cX11_reads 240 = .ok (.aload_n 0, 1) := by decide +kernel
theorem dX11_reads_241 : decode cX11_reads 241 = .ok (.getfield 35, 3) := by decide +kernel
theorem dX11_reads_244 : decode cX11_reads 244 = .ok (.aload_n 0, 1) := by decide +kernel
theorem dX11_reads_245 : decode cX11_reads 245 = .ok (.getfield 209, 3) := by decide +kernel
theorem dX11_reads_248 : decode cX11_reads 248 = .ok (.iload 10, 2) := by decide +kernel
theorem dX11_reads_250 : decode cX11_reads 250 = .ok (.iastore, 1) := by decide +kernel
theorem dX11_reads_251 : decode cX11_reads 251 = .ok (.aload_n 0, 1) := by decide +kernel
theorem dX11_reads_252 : decode cX11_reads 252 = .ok (.dup, 1) := by decide +kernel
theorem dX11_reads_253 : decode cX11_reads 253 = .ok (.getfield 209, 3) := by decide +kernel
theorem dX11_reads_256 : decode cX11_reads 256 = .ok (.iconst 1, 1) := by decide +kernel
theorem dX11_reads_257 : decode cX11_reads 257 = .ok (.iadd, 1) := by decide +kernel
theorem dX11_reads_258 : decode cX11_reads 258 = .ok (.putfield 209, 3) := by decide +kernel
theorem dX11_reads_261 : decode cX11_reads 261 = .ok (.goto (-250), 3) := by decide +kernel
theorem dX11_reads_264 : decode cX11_reads 264 = .ok (.bipush (-9), 2) := by decide +kernel
theorem dX11_reads_266 : decode cX11_reads 266 = .ok (.ireturn, 1) := by decide +kernel
set_option maxRecDepth 20000 in
theorem ggX11_fault_X11_lookedText : GoodIn wsX11_fault wsX11_lookedText := goodIn_r _ [7, 2, 8, 9, 6, 10, 11, 12, 13, 14, 15, 16, 17, 18, 19, 33, 34, 35, 36, 37, 38, 39, 40, 41, 42, 43, 44, 45, 46, 47, 48, 49, 50, 51, 52, 53, 54, 55, 56, 57, 58, 59, 60, 61, 62, 63, 64, 65, 66, 67, 68, 69, 70, 71, 72, 73, 74, 75, 76, 77, 78, 79, 80, 81, 82, 83, 84, 85, 86, 87, 88, 89, 90, 91, 92, 93, 94, 95, 96, 97, 98] (by decide +kernel) (by decide +kernel)
set_option maxRecDepth 20000 in
theorem gX11_fault_X11_lookedText : GoodIn wsX11_fault (wsV RX11 206 RX11 yX11_lookedText wsX11_lookedText) := goodIn_app (goodIn_of _ (by decide +kernel)) ggX11_fault_X11_lookedText
set_option maxRecDepth 20000 in
theorem ggX11_fault_X11_reads : GoodIn wsX11_fault wsX11_reads := goodIn_r _ [23, 24, 25, 26, 27, 28, 6, 29, 11, 12, 13, 30, 31, 32, 33, 34, 35, 36, 37, 38, 39, 40, 41, 42, 43, 44, 45, 46, 47, 48, 49, 50, 51, 52, 53, 54, 55, 56, 57, 58, 59, 60, 61, 62, 63, 64, 65, 66, 67, 68, 69, 70, 71, 72, 73, 74, 75, 76, 77, 78, 79, 80, 81, 82, 83, 84, 85, 86, 87, 88, 89, 90, 91, 92, 93, 94, 95, 96, 97, 98] (by decide +kernel) (by decide +kernel)
set_option maxRecDepth 20000 in
theorem gX11_fault_X11_reads : GoodIn wsX11_fault (wsV RX11 219 RX11 yX11_reads wsX11_reads) := goodIn_app (goodIn_of _ (by decide +kernel)) ggX11_fault_X11_reads
theorem dX11_fault_0 : decode cX11_fault 0 = .ok (.aload_n 0, 1) := by decide +kernel
theorem dX11_fault_1 : decode cX11_fault 1 = .ok (.iload_n 1, 1) := by decide +kernel
theorem dX11_fault_2 : decode cX11_fault 2 = .ok (.invokevirtual 206, 3) := by decide +kernel
theorem dX11_fault_5 : decode cX11_fault 5 = .ok (.istore_n 2, 1) := by decide +kernel
theorem dX11_fault_6 : decode cX11_fault 6 = .ok (.iload_n 2, 1) := by decide +kernel
theorem dX11_fault_7 : decode cX11_fault 7 = .ok (.ifCond .ge 7, 3) := by decide +kernel
theorem dX11_fault_10 : decode cX11_fault 10 = .ok (.iload_n 2, 1) := by decide +kernel
theorem dX11_fault_11 : decode cX11_fault 11 = .ok (.goto 21, 3) := by decide +kernel
theorem dX11_fault_14 : decode cX11_fault 14 = .ok (.aload_n 0, 1) := by decide +kernel
theorem dX11_fault_15 : decode cX11_fault 15 = .ok (.aload_n 0, 1) := by decide +kernel
theorem dX11_fault_16 : decode cX11_fault 16 = .ok (.getfield 29, 3) := by decide +kernel
theorem dX11_fault_19 : decode cX11_fault 19 = .ok (.bipush 40, 2) := by decide +kernel
theorem dX11_fault_21 : decode cX11_fault 21 = .ok (.iload_n 1, 1) := by decide +kernel
theorem dX11_fault_22 : decode cX11_fault 22 = .ok (.imul, 1) := by decide +kernel
theorem dX11_fault_23 : decode cX11_fault 23 = .ok (.aload_n 0, 1) := by decide +kernel
theorem dX11_fault_24 : decode cX11_fault 24 = .ok (.getfield 26, 3) := by decide +kernel
theorem dX11_fault_27 : decode cX11_fault 27 = .ok (.iload_n 1, 1) := by decide +kernel
theorem dX11_fault_28 : decode cX11_fault 28 = .ok (.iaload, 1) := by decide +kernel
theorem dX11_fault_29 : decode cX11_fault 29 = .ok (.invokevirtual 219, 3) := by decide +kernel
theorem dX11_fault_32 : decode cX11_fault 32 = .ok (.ireturn, 1) := by decide +kernel
theorem dX11_cells_0 : decode cX11_cells 0 = .ok (.aload_n 0, 1) := by decide +kernel
theorem dX11_cells_1 : decode cX11_cells 1 = .ok (.getfield 41, 3) := by decide +kernel
theorem dX11_cells_4 : decode cX11_cells 4 = .ok (.iload_n 1, 1) := by decide +kernel
theorem dX11_cells_5 : decode cX11_cells 5 = .ok (.iaload, 1) := by decide +kernel
theorem dX11_cells_6 : decode cX11_cells 6 = .ok (.aload_n 0, 1) := by decide +kernel
theorem dX11_cells_7 : decode cX11_cells 7 = .ok (.getfield 44, 3) := by decide +kernel
theorem dX11_cells_10 : decode cX11_cells 10 = .ok (.iload_n 1, 1) := by decide +kernel
theorem dX11_cells_11 : decode cX11_cells 11 = .ok (.iaload, 1) := by decide +kernel
theorem dX11_cells_12 : decode cX11_cells 12 = .ok (.imul, 1) := by decide +kernel
theorem dX11_cells_13 : decode cX11_cells 13 = .ok (.ireturn, 1) := by decide +kernel
theorem dX11_level_0 : decode cX11_level 0 = .ok (.aload_n 0, 1) := by decide +kernel
theorem dX11_level_1 : decode cX11_level 1 = .ok (.getfield 89, 3) := by decide +kernel
theorem dX11_level_4 : decode cX11_level 4 = .ok (.bipush 48, 2) := by decide +kernel
theorem dX11_level_6 : decode cX11_level 6 = .ok (.iload_n 1, 1) := by decide +kernel
theorem dX11_level_7 : decode cX11_level 7 = .ok (.imul, 1) := by decide +kernel
theorem dX11_level_8 : decode cX11_level 8 = .ok (.iload_n 2, 1) := by decide +kernel
theorem dX11_level_9 : decode cX11_level 9 = .ok (.iadd, 1) := by decide +kernel
theorem dX11_level_10 : decode cX11_level 10 = .ok (.iaload, 1) := by decide +kernel
theorem dX11_level_11 : decode cX11_level 11 = .ok (.aload_n 0, 1) := by decide +kernel
theorem dX11_level_12 : decode cX11_level 12 = .ok (.getfield 92, 3) := by decide +kernel
theorem dX11_level_15 : decode cX11_level 15 = .ok (.bipush 48, 2) := by decide +kernel
theorem dX11_level_17 : decode cX11_level 17 = .ok (.iload_n 1, 1) := by decide +kernel
theorem dX11_level_18 : decode cX11_level 18 = .ok (.imul, 1) := by decide +kernel
theorem dX11_level_19 : decode cX11_level 19 = .ok (.iload_n 2, 1) := by decide +kernel
theorem dX11_level_20 : decode cX11_level 20 = .ok (.iadd, 1) := by decide +kernel
theorem dX11_level_21 : decode cX11_level 21 = .ok (.iaload, 1) := by decide +kernel
theorem dX11_level_22 : decode cX11_level 22 = .ok (.iadd, 1) := by decide +kernel
theorem dX11_level_23 : decode cX11_level 23 = .ok (.ireturn, 1) := by decide +kernel
set_option maxRecDepth 20000 in
theorem ggX11_askedFor_X11_isSix : GoodIn wsX11_askedFor wsX11_isSix := goodIn_r _ [5, 6, 7, 4, 8] (by decide +kernel) (by decide +kernel)
set_option maxRecDepth 20000 in
theorem gX11_askedFor_X11_isSix : GoodIn wsX11_askedFor (va_wsS RX11 186 yX11_isSix wsX11_isSix) := goodIn_app (goodIn_of _ (by decide +kernel)) ggX11_askedFor_X11_isSix
set_option maxRecDepth 20000 in
theorem ggX11_askedFor_X11_meets : GoodIn wsX11_askedFor wsX11_meets := goodIn_r _ [12, 13, 14, 15, 16, 17, 18, 19, 20, 21, 22, 23, 24, 25, 26, 27, 28, 29, 30, 31, 32, 33, 34, 35, 36, 37, 38, 39, 40, 41, 42, 43, 44, 45, 46, 47, 48, 49, 50, 51, 52, 53, 54, 55, 56, 57, 58, 59, 60, 61, 62, 63, 64, 65, 66, 67, 68, 69, 70, 71, 72, 73, 74, 75, 76, 77, 78, 79, 80] (by decide +kernel) (by decide +kernel)
set_option maxRecDepth 20000 in
theorem gX11_askedFor_X11_meets : GoodIn wsX11_askedFor (wsV RX11 190 RX11 yX11_meets wsX11_meets) := goodIn_app (goodIn_of _ (by decide +kernel)) ggX11_askedFor_X11_meets
theorem dX11_askedFor_0 : decode cX11_askedFor 0 = .ok (.iload_n 1, 1) := by decide +kernel
theorem dX11_askedFor_1 : decode cX11_askedFor 1 = .ok (.invokestatic 186, 3) := by decide +kernel
theorem dX11_askedFor_4 : decode cX11_askedFor 4 = .ok (.ifCond .ne 7, 3) := by decide +kernel
theorem dX11_askedFor_7 : decode cX11_askedFor 7 = .ok (.iconst (-1), 1) := by decide +kernel
theorem dX11_askedFor_8 : decode cX11_askedFor 8 = .ok (.goto 21, 3) := by decide +kernel
theorem dX11_askedFor_11 : decode cX11_askedFor 11 = .ok (.aload_n 0, 1) := by decide +kernel
theorem dX11_askedFor_12 : decode cX11_askedFor 12 = .ok (.getfield 38, 3) := by decide +kernel
theorem dX11_askedFor_15 : decode cX11_askedFor 15 = .ok (.iload_n 1, 1) := by decide +kernel
theorem dX11_askedFor_16 : decode cX11_askedFor 16 = .ok (.iaload, 1) := by decide +kernel
theorem dX11_askedFor_17 : decode cX11_askedFor 17 = .ok (.ifCond .ge 11, 3) := by decide +kernel
theorem dX11_askedFor_20 : decode cX11_askedFor 20 = .ok (.aload_n 0, 1) := by decide +kernel
theorem dX11_askedFor_21 : decode cX11_askedFor 21 = .ok (.iconst 1, 1) := by decide +kernel
theorem dX11_askedFor_22 : decode cX11_askedFor 22 = .ok (.invokevirtual 190, 3) := by decide +kernel
theorem dX11_askedFor_25 : decode cX11_askedFor 25 = .ok (.goto 4, 3) := by decide +kernel
theorem dX11_askedFor_28 : decode cX11_askedFor 28 = .ok (.iconst 0, 1) := by decide +kernel
theorem dX11_askedFor_29 : decode cX11_askedFor 29 = .ok (.ireturn, 1) := by decide +kernel
set_option maxRecDepth 20000 in
theorem ggX11_isCell_X11_cells : GoodIn wsX11_isCell wsX11_cells := goodIn_r _ [5, 6, 7, 11, 12, 13, 14, 15, 16, 17, 18, 19, 20, 21, 22, 23, 24, 25, 26, 27, 28, 29, 30, 31, 32, 33, 34, 35, 36, 37, 38, 39, 40, 41, 42, 43, 44, 45, 46, 47, 48, 49, 50, 51, 52, 53, 54, 55, 56, 57, 58, 59, 60, 61, 62, 63, 64, 65, 66, 67, 68, 69, 70, 71, 72, 73, 74, 75, 76] (by decide +kernel) (by decide +kernel)
set_option maxRecDepth 20000 in
theorem gX11_isCell_X11_cells : GoodIn wsX11_isCell (wsV RX11 223 RX11 yX11_cells wsX11_cells) := goodIn_app (goodIn_of _ (by decide +kernel)) ggX11_isCell_X11_cells
set_option maxRecDepth 20000 in
theorem ggX11_isCell_X11_in : GoodIn wsX11_isCell wsX11_in := goodIn_r _ [10] (by decide +kernel) (by decide +kernel)
set_option maxRecDepth 20000 in
theorem gX11_isCell_X11_in : GoodIn wsX11_isCell (va_wsS RX11 182 yX11_in wsX11_in) := goodIn_app (goodIn_of _ (by decide +kernel)) ggX11_isCell_X11_in
theorem dX11_isCell_0 : decode cX11_isCell 0 = .ok (.iload_n 2, 1) := by decide +kernel
theorem dX11_isCell_1 : decode cX11_isCell 1 = .ok (.iconst 0, 1) := by decide +kernel
theorem dX11_isCell_2 : decode cX11_isCell 2 = .ok (.aload_n 0, 1) := by decide +kernel
theorem dX11_isCell_3 : decode cX11_isCell 3 = .ok (.iload_n 1, 1) := by decide +kernel
theorem dX11_isCell_4 : decode cX11_isCell 4 = .ok (.invokevirtual 223, 3) := by decide +kernel
theorem dX11_isCell_7 : decode cX11_isCell 7 = .ok (.iconst 1, 1) := by decide +kernel
theorem dX11_isCell_8 : decode cX11_isCell 8 = .ok (.isub, 1) := by decide +kernel
theorem dX11_isCell_9 : decode cX11_isCell 9 = .ok (.invokestatic 182, 3) := by decide +kernel
theorem dX11_isCell_12 : decode cX11_isCell 12 = .ok (.ireturn, 1) := by decide +kernel
set_option maxRecDepth 20000 in
theorem ggX11_beyond_X11_isCell : GoodIn wsX11_beyond wsX11_isCell := goodIn_r _ [6, 7, 8, 9, 5, 10, 1, 11, 12, 13, 14, 15, 16, 17, 18, 19, 20, 21, 22, 23, 24, 25, 26, 27, 28, 29, 30, 31, 32, 33, 34, 35, 36, 37, 38, 39, 40, 41, 42, 43, 44, 45, 46, 47, 48, 49, 50, 51, 52, 53, 54, 55, 56, 57, 58, 59, 60, 61, 62, 63, 64, 65, 66, 67, 68, 69, 70, 71, 72, 73, 74, 75, 76, 77, 78, 79, 80] (by decide +kernel) (by decide +kernel)
set_option maxRecDepth 20000 in
theorem gX11_beyond_X11_isCell : GoodIn wsX11_beyond (wsV RX11 226 RX11 yX11_isCell wsX11_isCell) := goodIn_app (goodIn_of _ (by decide +kernel)) ggX11_beyond_X11_isCell
set_option maxRecDepth 20000 in
theorem ggX11_beyond_X11_cells : GoodIn wsX11_beyond wsX11_cells := goodIn_r _ [10, 1, 11, 15, 16, 17, 18, 19, 20, 21, 22, 23, 24, 25, 26, 27, 28, 29, 30, 31, 32, 33, 34, 35, 36, 37, 38, 39, 40, 41, 42, 43, 44, 45, 46, 47, 48, 49, 50, 51, 52, 53, 54, 55, 56, 57, 58, 59, 60, 61, 62, 63, 64, 65, 66, 67, 68, 69, 70, 71, 72, 73, 74, 75, 76, 77, 78, 79, 80] (by decide +kernel) (by decide +kernel)
set_option maxRecDepth 20000 in
theorem gX11_beyond_X11_cells : GoodIn wsX11_beyond (wsV RX11 223 RX11 yX11_cells wsX11_cells) := goodIn_app (goodIn_of _ (by decide +kernel)) ggX11_beyond_X11_cells
theorem dX11_beyond_0 : decode cX11_beyond 0 = .ok (.iload_n 2, 1) := by decide +kernel
theorem dX11_beyond_1 : decode cX11_beyond 1 = .ok (.iconst 2, 1) := by decide +kernel
theorem dX11_beyond_2 : decode cX11_beyond 2 = .ok (.idiv, 1) := by decide +kernel
theorem dX11_beyond_3 : decode cX11_beyond 3 = .ok (.istore_n 3, 1) := by decide +kernel
theorem dX11_beyond_4 : decode cX11_beyond 4 = .ok (.iload_n 2, 1) := by decide +kernel
theorem dX11_beyond_5 : decode cX11_beyond 5 = .ok (.ifCond .lt 12, 3) := by decide +kernel
theorem dX11_beyond_8 : decode cX11_beyond 8 = .ok (.aload_n 0, 1) := by decide +kernel
theorem dX11_beyond_9 : decode cX11_beyond 9 = .ok (.iload_n 1, 1) := by decide +kernel
theorem dX11_beyond_10 : decode cX11_beyond 10 = .ok (.iload_n 3, 1) := by decide +kernel
theorem dX11_beyond_11 : decode cX11_beyond 11 = .ok (.invokevirtual 226, 3) := by decide +kernel
theorem dX11_beyond_14 : decode cX11_beyond 14 = .ok (.ifCond .ne 6, 3) := by decide +kernel
theorem dX11_beyond_17 : decode cX11_beyond 17 = .ok (.bipush (-9), 2) := by decide +kernel
theorem dX11_beyond_19 : decode cX11_beyond 19 = .ok (.ireturn, 1) := by decide +kernel
theorem dX11_beyond_20 : decode cX11_beyond 20 = .ok (.iload_n 2, 1) := by decide +kernel
theorem dX11_beyond_21 : decode cX11_beyond 21 = .ok (.iconst 2, 1) := by decide +kernel
theorem dX11_beyond_22 : decode cX11_beyond 22 = .ok (.irem, 1) := by decide +kernel
theorem dX11_beyond_23 : decode cX11_beyond 23 = .ok (.ifCond .ne 31, 3) := by decide +kernel
theorem dX11_beyond_26 : decode cX11_beyond 26 = .ok (.iload_n 3, 1) := by decide +kernel
theorem dX11_beyond_27 : decode cX11_beyond 27 = .ok (.aload_n 0, 1) := by decide +kernel
theorem dX11_beyond_28 : decode cX11_beyond 28 = .ok (.getfield 41, 3) := by decide +kernel
theorem dX11_beyond_31 : decode cX11_beyond 31 = .ok (.iload_n 1, 1) := by decide +kernel
theorem dX11_beyond_32 : decode cX11_beyond 32 = .ok (.iaload, 1) := by decide +kernel
theorem dX11_beyond_33 : decode cX11_beyond 33 = .ok (.irem, 1) := by decide +kernel
theorem dX11_beyond_34 : decode cX11_beyond 34 = .ok (.iconst 1, 1) := by decide +kernel
theorem dX11_beyond_35 : decode cX11_beyond 35 = .ok (.iadd, 1) := by decide +kernel
theorem dX11_beyond_36 : decode cX11_beyond 36 = .ok (.aload_n 0, 1) := by decide +kernel
theorem dX11_beyond_37 : decode cX11_beyond 37 = .ok (.getfield 41, 3) := by decide +kernel
theorem dX11_beyond_40 : decode cX11_beyond 40 = .ok (.iload_n 1, 1) := by decide +kernel
theorem dX11_beyond_41 : decode cX11_beyond 41 = .ok (.iaload, 1) := by decide +kernel
theorem dX11_beyond_42 : decode cX11_beyond 42 = .ok (.if_icmp .ge 9, 3) := by decide +kernel
theorem dX11_beyond_45 : decode cX11_beyond 45 = .ok (.iload_n 3, 1) := by decide +kernel
theorem dX11_beyond_46 : decode cX11_beyond 46 = .ok (.iconst 1, 1) := by decide +kernel
theorem dX11_beyond_47 : decode cX11_beyond 47 = .ok (.iadd, 1) := by decide +kernel
theorem dX11_beyond_48 : decode cX11_beyond 48 = .ok (.goto 5, 3) := by decide +kernel
theorem dX11_beyond_51 : decode cX11_beyond 51 = .ok (.bipush (-9), 2) := by decide +kernel
theorem dX11_beyond_53 : decode cX11_beyond 53 = .ok (.ireturn, 1) := by decide +kernel
theorem dX11_beyond_54 : decode cX11_beyond 54 = .ok (.iload_n 3, 1) := by decide +kernel
theorem dX11_beyond_55 : decode cX11_beyond 55 = .ok (.aload_n 0, 1) := by decide +kernel
theorem dX11_beyond_56 : decode cX11_beyond 56 = .ok (.getfield 41, 3) := by decide +kernel
theorem dX11_beyond_59 : decode cX11_beyond 59 = .ok (.iload_n 1, 1) := by decide +kernel
theorem dX11_beyond_60 : decode cX11_beyond 60 = .ok (.iaload, 1) := by decide +kernel
theorem dX11_beyond_61 : decode cX11_beyond 61 = .ok (.iadd, 1) := by decide +kernel
theorem dX11_beyond_62 : decode cX11_beyond 62 = .ok (.aload_n 0, 1) := by decide +kernel
theorem dX11_beyond_63 : decode cX11_beyond 63 = .ok (.iload_n 1, 1) := by decide +kernel
theorem dX11_beyond_64 : decode cX11_beyond 64 = .ok (.invokevirtual 223, 3) := by decide +kernel
theorem dX11_beyond_67 : decode cX11_beyond 67 = .ok (.if_icmp .ge 14, 3) := by decide +kernel
theorem dX11_beyond_70 : decode cX11_beyond 70 = .ok (.iload_n 3, 1) := by decide +kernel
theorem dX11_beyond_71 : decode cX11_beyond 71 = .ok (.aload_n 0, 1) := by decide +kernel
theorem dX11_beyond_72 : decode cX11_beyond 72 = .ok (.getfield 41, 3) := by decide +kernel
theorem dX11_beyond_75 : decode cX11_beyond 75 = .ok (.iload_n 1, 1) := by decide +kernel
theorem dX11_beyond_76 : decode cX11_beyond 76 = .ok (.iaload, 1) := by decide +kernel
theorem dX11_beyond_77 : decode cX11_beyond 77 = .ok (.iadd, 1) := by decide +kernel
theorem dX11_beyond_78 : decode cX11_beyond 78 = .ok (.goto 5, 3) := by decide +kernel
theorem dX11_beyond_81 : decode cX11_beyond 81 = .ok (.bipush (-9), 2) := by decide +kernel
theorem dX11_beyond_83 : decode cX11_beyond 83 = .ok (.ireturn, 1) := by decide +kernel
theorem dX11_clear_0 : decode cX11_clear 0 = .ok (.iconst 1, 1) := by decide +kernel
theorem dX11_clear_1 : decode cX11_clear 1 = .ok (.istore_n 2, 1) := by decide +kernel
theorem dX11_clear_2 : decode cX11_clear 2 = .ok (.iconst 1, 1) := by decide +kernel
theorem dX11_clear_3 : decode cX11_clear 3 = .ok (.istore_n 3, 1) := by decide +kernel
theorem dX11_clear_4 : decode cX11_clear 4 = .ok (.iload_n 2, 1) := by decide +kernel
theorem dX11_clear_5 : decode cX11_clear 5 = .ok (.ifCond .eq 171, 3) := by decide +kernel
theorem dX11_clear_8 : decode cX11_clear 8 = .ok (.iconst 0, 1) := by decide +kernel
theorem dX11_clear_9 : decode cX11_clear 9 = .ok (.istore_n 2, 1) := by decide +kernel
theorem dX11_clear_10 : decode cX11_clear 10 = .ok (.iload_n 3, 1) := by decide +kernel
theorem dX11_clear_11 : decode cX11_clear 11 = .ok (.ifCond .eq 7, 3) := by decide +kernel
theorem dX11_clear_14 : decode cX11_clear 14 = .ok (.iload_n 1, 1) := by decide +kernel
theorem dX11_clear_15 : decode cX11_clear 15 = .ok (.goto 5, 3) := by decide +kernel
theorem dX11_clear_18 : decode cX11_clear 18 = .ok (.bipush (-9), 2) := by decide +kernel
theorem dX11_clear_20 : decode cX11_clear 20 = .ok (.istore 4, 2) := by decide +kernel
theorem dX11_clear_22 : decode cX11_clear 22 = .ok (.iconst 0, 1) := by decide +kernel
theorem dX11_clear_23 : decode cX11_clear 23 = .ok (.istore 5, 2) := by decide +kernel
theorem dX11_clear_25 : decode cX11_clear 25 = .ok (.iload 5, 2) := by decide +kernel
theorem dX11_clear_27 : decode cX11_clear 27 = .ok (.bipush 6, 2) := by decide +kernel
theorem dX11_clear_29 : decode cX11_clear 29 = .ok (.if_icmp .ge 48, 3) := by decide +kernel
theorem dX11_clear_32 : decode cX11_clear 32 = .ok (.iload_n 3, 1) := by decide +kernel
theorem dX11_clear_33 : decode cX11_clear 33 = .ok (.ifCond .ne 44, 3) := by decide +kernel
theorem dX11_clear_36 : decode cX11_clear 36 = .ok (.aload_n 0, 1) := by decide +kernel
theorem dX11_clear_37 : decode cX11_clear 37 = .ok (.getfield 38, 3) := by decide +kernel
theorem dX11_clear_40 : decode cX11_clear 40 = .ok (.iload 5, 2) := by decide +kernel
theorem dX11_clear_42 : decode cX11_clear 42 = .ok (.iaload, 1) := by decide +kernel
theorem dX11_clear_43 : decode cX11_clear 43 = .ok (.iconst 2, 1) := by decide +kernel
theorem dX11_clear_44 : decode cX11_clear 44 = .ok (.if_icmp .ne 23, 3) := by decide +kernel
theorem dX11_clear_47 : decode cX11_clear 47 = .ok (.aload_n 0, 1) := by decide +kernel
theorem dX11_clear_48 : decode cX11_clear 48 = .ok (.getfield 38, 3) := by decide +kernel
theorem dX11_clear_51 : decode cX11_clear 51 = .ok (.aload_n 0, 1) := by decide +kernel
theorem dX11_clear_52 : decode cX11_clear 52 = .ok (.getfield 105, 3) := by decide +kernel
theorem dX11_clear_55 : decode cX11_clear 55 = .ok (.iload 5, 2) := by decide +kernel
theorem dX11_clear_57 : decode cX11_clear 57 = .ok (.iaload, 1) := by decide +kernel
theorem dX11_clear_58 : decode cX11_clear 58 = .ok (.iaload, 1) := by decide +kernel
theorem dX11_clear_59 : decode cX11_clear 59 = .ok (.ifCond .ge 8, 3) := by decide +kernel
theorem dX11_clear_62 : decode cX11_clear 62 = .ok (.iload 5, 2) := by decide +kernel
theorem dX11_clear_64 : decode cX11_clear 64 = .ok (.goto 5, 3) := by decide +kernel
theorem dX11_clear_67 : decode cX11_clear 67 = .ok (.iload 4, 2) := by decide +kernel
theorem dX11_clear_69 : decode cX11_clear 69 = .ok (.istore 4, 2) := by decide +kernel
theorem dX11_clear_71 : decode cX11_clear 71 = .ok (.iinc 5 1, 3) := by decide +kernel
theorem dX11_clear_74 : decode cX11_clear 74 = .ok (.goto (-49), 3) := by decide +kernel
theorem dX11_clear_77 : decode cX11_clear 77 = .ok (.iload 4, 2) := by decide +kernel
theorem dX11_clear_79 : decode cX11_clear 79 = .ok (.ifCond .lt 92, 3) := by decide +kernel
theorem dX11_clear_82 : decode cX11_clear 82 = .ok (.aload_n 0, 1) := by decide +kernel
theorem dX11_clear_83 : decode cX11_clear 83 = .ok (.getfield 38, 3) := by decide +kernel
theorem dX11_clear_86 : decode cX11_clear 86 = .ok (.iload 4, 2) := by decide +kernel
theorem dX11_clear_88 : decode cX11_clear 88 = .ok (.bipush (-9), 2) := by decide +kernel
theorem dX11_clear_90 : decode cX11_clear 90 = .ok (.iastore, 1) := by decide +kernel
theorem dX11_clear_91 : decode cX11_clear 91 = .ok (.iconst 1, 1) := by decide +kernel
theorem dX11_clear_92 : decode cX11_clear 92 = .ok (.istore_n 2, 1) := by decide +kernel
theorem dX11_clear_93 : decode cX11_clear 93 = .ok (.iconst 0, 1) := by decide +kernel
theorem dX11_clear_94 : decode cX11_clear 94 = .ok (.istore 5, 2) := by decide +kernel
theorem dX11_clear_96 : decode cX11_clear 96 = .ok (.iload 5, 2) := by decide +kernel
theorem dX11_clear_98 : decode cX11_clear 98 = .ok (.bipush 8, 2) := by decide +kernel
theorem dX11_clear_100 : decode cX11_clear 100 = .ok (.if_icmp .ge 71, 3) := by decide +kernel
theorem dX11_clear_103 : decode cX11_clear 103 = .ok (.aload_n 0, 1) := by decide +kernel
theorem dX11_clear_104 : decode cX11_clear 104 = .ok (.getfield 132, 3) := by decide +kernel
theorem dX11_clear_107 : decode cX11_clear 107 = .ok (.iload 5, 2) := by decide +kernel
theorem dX11_clear_109 : decode cX11_clear 109 = .ok (.aload_n 0, 1) := by decide +kernel
theorem dX11_clear_110 : decode cX11_clear 110 = .ok (.getfield 132, 3) := by decide +kernel
theorem dX11_clear_113 : decode cX11_clear 113 = .ok (.iload 5, 2) := by decide +kernel
theorem dX11_clear_115 : decode cX11_clear 115 = .ok (.iaload, 1) := by decide +kernel
theorem dX11_clear_116 : decode cX11_clear 116 = .ok (.iload 4, 2) := by decide +kernel
theorem dX11_clear_118 : decode cX11_clear 118 = .ok (.if_icmp .ne 8, 3) := by decide +kernel
theorem dX11_clear_121 : decode cX11_clear 121 = .ok (.bipush (-9), 2) := by decide +kernel
theorem dX11_clear_123 : decode cX11_clear 123 = .ok (.goto 10, 3) := by decide +kernel
theorem dX11_clear_126 : decode cX11_clear 126 = .ok (.aload_n 0, 1) := by decide +kernel
theorem dX11_clear_127 : decode cX11_clear 127 = .ok (.getfield 132, 3) := by decide +kernel
theorem dX11_clear_130 : decode cX11_clear 130 = .ok (.iload 5, 2) := by decide +kernel
theorem dX11_clear_132 : decode cX11_clear 132 = .ok (.iaload, 1) := by decide +kernel
theorem dX11_clear_133 : decode cX11_clear 133 = .ok (.iastore, 1) := by decide +kernel
theorem dX11_clear_134 : decode cX11_clear 134 = .ok (.aload_n 0, 1) := by decide +kernel
theorem dX11_clear_135 : decode cX11_clear 135 = .ok (.getfield 141, 3) := by decide +kernel
theorem dX11_clear_138 : decode cX11_clear 138 = .ok (.iload 5, 2) := by decide +kernel
theorem dX11_clear_140 : decode cX11_clear 140 = .ok (.aload_n 0, 1) := by decide +kernel
theorem dX11_clear_141 : decode cX11_clear 141 = .ok (.getfield 141, 3) := by decide +kernel
theorem dX11_clear_144 : decode cX11_clear 144 = .ok (.iload 5, 2) := by decide +kernel
theorem dX11_clear_146 : decode cX11_clear 146 = .ok (.iaload, 1) := by decide +kernel
theorem dX11_clear_147 : decode cX11_clear 147 = .ok (.iload 4, 2) := by decide +kernel
theorem dX11_clear_149 : decode cX11_clear 149 = .ok (.if_icmp .ne 8, 3) := by decide +kernel
theorem dX11_clear_152 : decode cX11_clear 152 = .ok (.bipush (-9), 2) := by decide +kernel
theorem dX11_clear_154 : decode cX11_clear 154 = .ok (.goto 10, 3) := by decide +kernel
theorem dX11_clear_157 : decode cX11_clear 157 = .ok (.aload_n 0, 1) := by decide +kernel
theorem dX11_clear_158 : decode cX11_clear 158 = .ok (.getfield 141, 3) := by decide +kernel
theorem dX11_clear_161 : decode cX11_clear 161 = .ok (.iload 5, 2) := by decide +kernel
theorem dX11_clear_163 : decode cX11_clear 163 = .ok (.iaload, 1) := by decide +kernel
theorem dX11_clear_164 : decode cX11_clear 164 = .ok (.iastore, 1) := by decide +kernel
theorem dX11_clear_165 : decode cX11_clear 165 = .ok (.iinc 5 1, 3) := by decide +kernel
theorem dX11_clear_168 : decode cX11_clear 168 = .ok (.goto (-72), 3) := by decide +kernel
theorem dX11_clear_171 : decode cX11_clear 171 = .ok (.iconst 0, 1) := by decide +kernel
theorem dX11_clear_172 : decode cX11_clear 172 = .ok (.istore_n 3, 1) := by decide +kernel
theorem dX11_clear_173 : decode cX11_clear 173 = .ok (.goto (-169), 3) := by decide +kernel
theorem dX11_clear_176 : decode cX11_clear 176 = .ok (.return_, 1) := by decide +kernel
theorem dX11_begin_0 : decode cX11_begin 0 = .ok (.aload_n 0, 1) := by decide +kernel
theorem dX11_begin_1 : decode cX11_begin 1 = .ok (.getfield 38, 3) := by decide +kernel
theorem dX11_begin_4 : decode cX11_begin 4 = .ok (.iload_n 1, 1) := by decide +kernel
theorem dX11_begin_5 : decode cX11_begin 5 = .ok (.iload_n 2, 1) := by decide +kernel
theorem dX11_begin_6 : decode cX11_begin 6 = .ok (.iastore, 1) := by decide +kernel
theorem dX11_begin_7 : decode cX11_begin 7 = .ok (.aload_n 0, 1) := by decide +kernel
theorem dX11_begin_8 : decode cX11_begin 8 = .ok (.getfield 41, 3) := by decide +kernel
theorem dX11_begin_11 : decode cX11_begin 11 = .ok (.iload_n 1, 1) := by decide +kernel
theorem dX11_begin_12 : decode cX11_begin 12 = .ok (.iload_n 3, 1) := by decide +kernel
theorem dX11_begin_13 : decode cX11_begin 13 = .ok (.iastore, 1) := by decide +kernel
theorem dX11_begin_14 : decode cX11_begin 14 = .ok (.aload_n 0, 1) := by decide +kernel
theorem dX11_begin_15 : decode cX11_begin 15 = .ok (.getfield 44, 3) := by decide +kernel
theorem dX11_begin_18 : decode cX11_begin 18 = .ok (.iload_n 1, 1) := by decide +kernel
theorem dX11_begin_19 : decode cX11_begin 19 = .ok (.iload 4, 2) := by decide +kernel
theorem dX11_begin_21 : decode cX11_begin 21 = .ok (.iastore, 1) := by decide +kernel
theorem dX11_begin_22 : decode cX11_begin 22 = .ok (.aload_n 0, 1) := by decide +kernel
theorem dX11_begin_23 : decode cX11_begin 23 = .ok (.getfield 47, 3) := by decide +kernel
theorem dX11_begin_26 : decode cX11_begin 26 = .ok (.iload_n 1, 1) := by decide +kernel
theorem dX11_begin_27 : decode cX11_begin 27 = .ok (.iconst 4, 1) := by decide +kernel
theorem dX11_begin_28 : decode cX11_begin 28 = .ok (.iastore, 1) := by decide +kernel
theorem dX11_begin_29 : decode cX11_begin 29 = .ok (.aload_n 0, 1) := by decide +kernel
theorem dX11_begin_30 : decode cX11_begin 30 = .ok (.getfield 50, 3) := by decide +kernel
theorem dX11_begin_33 : decode cX11_begin 33 = .ok (.iload_n 1, 1) := by decide +kernel
theorem dX11_begin_34 : decode cX11_begin 34 = .ok (.bipush 10, 2) := by decide +kernel
theorem dX11_begin_36 : decode cX11_begin 36 = .ok (.iastore, 1) := by decide +kernel
theorem dX11_begin_37 : decode cX11_begin 37 = .ok (.aload_n 0, 1) := by decide +kernel
theorem dX11_begin_38 : decode cX11_begin 38 = .ok (.getfield 53, 3) := by decide +kernel
theorem dX11_begin_41 : decode cX11_begin 41 = .ok (.iload_n 1, 1) := by decide +kernel
theorem dX11_begin_42 : decode cX11_begin 42 = .ok (.iconst 0, 1) := by decide +kernel
theorem dX11_begin_43 : decode cX11_begin 43 = .ok (.iastore, 1) := by decide +kernel
theorem dX11_begin_44 : decode cX11_begin 44 = .ok (.aload_n 0, 1) := by decide +kernel
theorem dX11_begin_45 : decode cX11_begin 45 = .ok (.getfield 56, 3) := by decide +kernel
theorem dX11_begin_48 : decode cX11_begin 48 = .ok (.iload_n 1, 1) := by decide +kernel
theorem dX11_begin_49 : decode cX11_begin 49 = .ok (.iconst 0, 1) := by decide +kernel
theorem dX11_begin_50 : decode cX11_begin 50 = .ok (.iastore, 1) := by decide +kernel
theorem dX11_begin_51 : decode cX11_begin 51 = .ok (.aload_n 0, 1) := by decide +kernel
theorem dX11_begin_52 : decode cX11_begin 52 = .ok (.getfield 59, 3) := by decide +kernel
theorem dX11_begin_55 : decode cX11_begin 55 = .ok (.iload_n 1, 1) := by decide +kernel
theorem dX11_begin_56 : decode cX11_begin 56 = .ok (.iconst 0, 1) := by decide +kernel
theorem dX11_begin_57 : decode cX11_begin 57 = .ok (.iastore, 1) := by decide +kernel
theorem dX11_begin_58 : decode cX11_begin 58 = .ok (.aload_n 0, 1) := by decide +kernel
theorem dX11_begin_59 : decode cX11_begin 59 = .ok (.getfield 62, 3) := by decide +kernel
theorem dX11_begin_62 : decode cX11_begin 62 = .ok (.iload_n 1, 1) := by decide +kernel
theorem dX11_begin_63 : decode cX11_begin 63 = .ok (.iconst 0, 1) := by decide +kernel
theorem dX11_begin_64 : decode cX11_begin 64 = .ok (.iastore, 1) := by decide +kernel
theorem dX11_begin_65 : decode cX11_begin 65 = .ok (.aload_n 0, 1) := by decide +kernel
theorem dX11_begin_66 : decode cX11_begin 66 = .ok (.getfield 65, 3) := by decide +kernel
theorem dX11_begin_69 : decode cX11_begin 69 = .ok (.iload_n 1, 1) := by decide +kernel
theorem dX11_begin_70 : decode cX11_begin 70 = .ok (.iconst 0, 1) := by decide +kernel
theorem dX11_begin_71 : decode cX11_begin 71 = .ok (.iastore, 1) := by decide +kernel
theorem dX11_begin_72 : decode cX11_begin 72 = .ok (.aload_n 0, 1) := by decide +kernel
theorem dX11_begin_73 : decode cX11_begin 73 = .ok (.getfield 68, 3) := by decide +kernel
theorem dX11_begin_76 : decode cX11_begin 76 = .ok (.iload_n 1, 1) := by decide +kernel
theorem dX11_begin_77 : decode cX11_begin 77 = .ok (.bipush (-9), 2) := by decide +kernel
theorem dX11_begin_79 : decode cX11_begin 79 = .ok (.iastore, 1) := by decide +kernel
theorem dX11_begin_80 : decode cX11_begin 80 = .ok (.aload_n 0, 1) := by decide +kernel
theorem dX11_begin_81 : decode cX11_begin 81 = .ok (.getfield 71, 3) := by decide +kernel
theorem dX11_begin_84 : decode cX11_begin 84 = .ok (.iload_n 1, 1) := by decide +kernel
theorem dX11_begin_85 : decode cX11_begin 85 = .ok (.iconst 0, 1) := by decide +kernel
theorem dX11_begin_86 : decode cX11_begin 86 = .ok (.iastore, 1) := by decide +kernel
theorem dX11_begin_87 : decode cX11_begin 87 = .ok (.aload_n 0, 1) := by decide +kernel
theorem dX11_begin_88 : decode cX11_begin 88 = .ok (.getfield 74, 3) := by decide +kernel
theorem dX11_begin_91 : decode cX11_begin 91 = .ok (.iload_n 1, 1) := by decide +kernel
theorem dX11_begin_92 : decode cX11_begin 92 = .ok (.iconst 0, 1) := by decide +kernel
theorem dX11_begin_93 : decode cX11_begin 93 = .ok (.iastore, 1) := by decide +kernel
theorem dX11_begin_94 : decode cX11_begin 94 = .ok (.aload_n 0, 1) := by decide +kernel
theorem dX11_begin_95 : decode cX11_begin 95 = .ok (.getfield 83, 3) := by decide +kernel
theorem dX11_begin_98 : decode cX11_begin 98 = .ok (.iload_n 1, 1) := by decide +kernel
theorem dX11_begin_99 : decode cX11_begin 99 = .ok (.iconst 0, 1) := by decide +kernel
theorem dX11_begin_100 : decode cX11_begin 100 = .ok (.iastore, 1) := by decide +kernel
theorem dX11_begin_101 : decode cX11_begin 101 = .ok (.iconst 0, 1) := by decide +kernel
theorem dX11_begin_102 : decode cX11_begin 102 = .ok (.istore 5, 2) := by decide +kernel
theorem dX11_begin_104 : decode cX11_begin 104 = .ok (.iload 5, 2) := by decide +kernel
theorem dX11_begin_106 : decode cX11_begin 106 = .ok (.bipush 48, 2) := by decide +kernel
theorem dX11_begin_108 : decode cX11_begin 108 = .ok (.if_icmp .ge 96, 3) := by decide +kernel
theorem dX11_begin_111 : decode cX11_begin 111 = .ok (.aload_n 0, 1) := by decide +kernel
theorem dX11_begin_112 : decode cX11_begin 112 = .ok (.getfield 89, 3) := by decide +kernel
theorem dX11_begin_115 : decode cX11_begin 115 = .ok (.bipush 48, 2) := by decide +kernel
theorem dX11_begin_117 : decode cX11_begin 117 = .ok (.iload_n 1, 1) := by decide +kernel
theorem dX11_begin_118 : decode cX11_begin 118 = .ok (.imul, 1) := by decide +kernel
theorem dX11_begin_119 : decode cX11_begin 119 = .ok (.iload 5, 2) := by decide +kernel
theorem dX11_begin_121 : decode cX11_begin 121 = .ok (.iadd, 1) := by decide +kernel
theorem dX11_begin_122 : decode cX11_begin 122 = .ok (.iconst 0, 1) := by decide +kernel
theorem dX11_begin_123 : decode cX11_begin 123 = .ok (.iastore, 1) := by decide +kernel
theorem dX11_begin_124 : decode cX11_begin 124 = .ok (.aload_n 0, 1) := by decide +kernel
theorem dX11_begin_125 : decode cX11_begin 125 = .ok (.getfield 92, 3) := by decide +kernel
theorem dX11_begin_128 : decode cX11_begin 128 = .ok (.bipush 48, 2) := by decide +kernel
theorem dX11_begin_130 : decode cX11_begin 130 = .ok (.iload_n 1, 1) := by decide +kernel
theorem dX11_begin_131 : decode cX11_begin 131 = .ok (.imul, 1) := by decide +kernel
theorem dX11_begin_132 : decode cX11_begin 132 = .ok (.iload 5, 2) := by decide +kernel
theorem dX11_begin_134 : decode cX11_begin 134 = .ok (.iadd, 1) := by decide +kernel
theorem dX11_begin_135 : decode cX11_begin 135 = .ok (.iconst 0, 1) := by decide +kernel
theorem dX11_begin_136 : decode cX11_begin 136 = .ok (.iastore, 1) := by decide +kernel
theorem dX11_begin_137 : decode cX11_begin 137 = .ok (.aload_n 0, 1) := by decide +kernel
theorem dX11_begin_138 : decode cX11_begin 138 = .ok (.getfield 114, 3) := by decide +kernel
theorem dX11_begin_141 : decode cX11_begin 141 = .ok (.bipush 48, 2) := by decide +kernel
theorem dX11_begin_143 : decode cX11_begin 143 = .ok (.iload_n 1, 1) := by decide +kernel
theorem dX11_begin_144 : decode cX11_begin 144 = .ok (.imul, 1) := by decide +kernel
theorem dX11_begin_145 : decode cX11_begin 145 = .ok (.iload 5, 2) := by decide +kernel
theorem dX11_begin_147 : decode cX11_begin 147 = .ok (.iadd, 1) := by decide +kernel
theorem dX11_begin_148 : decode cX11_begin 148 = .ok (.iconst 0, 1) := by decide +kernel
theorem dX11_begin_149 : decode cX11_begin 149 = .ok (.iastore, 1) := by decide +kernel
theorem dX11_begin_150 : decode cX11_begin 150 = .ok (.aload_n 0, 1) := by decide +kernel
theorem dX11_begin_151 : decode cX11_begin 151 = .ok (.getfield 117, 3) := by decide +kernel
theorem dX11_begin_154 : decode cX11_begin 154 = .ok (.bipush 48, 2) := by decide +kernel
theorem dX11_begin_156 : decode cX11_begin 156 = .ok (.iload_n 1, 1) := by decide +kernel
theorem dX11_begin_157 : decode cX11_begin 157 = .ok (.imul, 1) := by decide +kernel
theorem dX11_begin_158 : decode cX11_begin 158 = .ok (.iload 5, 2) := by decide +kernel
theorem dX11_begin_160 : decode cX11_begin 160 = .ok (.iadd, 1) := by decide +kernel
theorem dX11_begin_161 : decode cX11_begin 161 = .ok (.iconst 0, 1) := by decide +kernel
theorem dX11_begin_162 : decode cX11_begin 162 = .ok (.iastore, 1) := by decide +kernel
theorem dX11_begin_163 : decode cX11_begin 163 = .ok (.iconst 0, 1) := by decide +kernel
theorem dX11_begin_164 : decode cX11_begin 164 = .ok (.istore 6, 2) := by decide +kernel
theorem dX11_begin_166 : decode cX11_begin 166 = .ok (.iload 6, 2) := by decide +kernel
theorem dX11_begin_168 : decode cX11_begin 168 = .ok (.iconst 3, 1) := by decide +kernel
theorem dX11_begin_169 : decode cX11_begin 169 = .ok (.if_icmp .ge 29, 3) := by decide +kernel
theorem dX11_begin_172 : decode cX11_begin 172 = .ok (.aload_n 0, 1) := by decide +kernel
theorem dX11_begin_173 : decode cX11_begin 173 = .ok (.getfield 95, 3) := by decide +kernel
theorem dX11_begin_176 : decode cX11_begin 176 = .ok (.sipush 144, 3) := by decide +kernel
theorem dX11_begin_179 : decode cX11_begin 179 = .ok (.iload_n 1, 1) := by decide +kernel
theorem dX11_begin_180 : decode cX11_begin 180 = .ok (.imul, 1) := by decide +kernel
theorem dX11_begin_181 : decode cX11_begin 181 = .ok (.bipush 48, 2) := by decide +kernel
theorem dX11_begin_183 : decode cX11_begin 183 = .ok (.iload 6, 2) := by decide +kernel
theorem dX11_begin_185 : decode cX11_begin 185 = .ok (.imul, 1) := by decide +kernel
theorem dX11_begin_186 : decode cX11_begin 186 = .ok (.iadd, 1) := by decide +kernel
theorem dX11_begin_187 : decode cX11_begin 187 = .ok (.iload 5, 2) := by decide +kernel
theorem dX11_begin_189 : decode cX11_begin 189 = .ok (.iadd, 1) := by decide +kernel
theorem dX11_begin_190 : decode cX11_begin 190 = .ok (.iconst 0, 1) := by decide +kernel
theorem dX11_begin_191 : decode cX11_begin 191 = .ok (.iastore, 1) := by decide +kernel
theorem dX11_begin_192 : decode cX11_begin 192 = .ok (.iinc 6 1, 3) := by decide +kernel
theorem dX11_begin_195 : decode cX11_begin 195 = .ok (.goto (-29), 3) := by decide +kernel
theorem dX11_begin_198 : decode cX11_begin 198 = .ok (.iinc 5 1, 3) := by decide +kernel
theorem dX11_begin_201 : decode cX11_begin 201 = .ok (.goto (-97), 3) := by decide +kernel
theorem dX11_begin_204 : decode cX11_begin 204 = .ok (.iconst 0, 1) := by decide +kernel
theorem dX11_begin_205 : decode cX11_begin 205 = .ok (.istore 5, 2) := by decide +kernel
theorem dX11_begin_207 : decode cX11_begin 207 = .ok (.iload 5, 2) := by decide +kernel
theorem dX11_begin_209 : decode cX11_begin 209 = .ok (.bipush 96, 2) := by decide +kernel
theorem dX11_begin_211 : decode cX11_begin 211 = .ok (.if_icmp .ge 35, 3) := by decide +kernel
theorem dX11_begin_214 : decode cX11_begin 214 = .ok (.aload_n 0, 1) := by decide +kernel
theorem dX11_begin_215 : decode cX11_begin 215 = .ok (.getfield 98, 3) := by decide +kernel
theorem dX11_begin_218 : decode cX11_begin 218 = .ok (.bipush 96, 2) := by decide +kernel
theorem dX11_begin_220 : decode cX11_begin 220 = .ok (.iload_n 1, 1) := by decide +kernel
theorem dX11_begin_221 : decode cX11_begin 221 = .ok (.imul, 1) := by decide +kernel
theorem dX11_begin_222 : decode cX11_begin 222 = .ok (.iload 5, 2) := by decide +kernel
theorem dX11_begin_224 : decode cX11_begin 224 = .ok (.iadd, 1) := by decide +kernel
theorem dX11_begin_225 : decode cX11_begin 225 = .ok (.iconst 0, 1) := by decide +kernel
theorem dX11_begin_226 : decode cX11_begin 226 = .ok (.iastore, 1) := by decide +kernel
theorem dX11_begin_227 : decode cX11_begin 227 = .ok (.aload_n 0, 1) := by decide +kernel
theorem dX11_begin_228 : decode cX11_begin 228 = .ok (.getfield 101, 3) := by decide +kernel
theorem dX11_begin_231 : decode cX11_begin 231 = .ok (.bipush 96, 2) := by decide +kernel
theorem dX11_begin_233 : decode cX11_begin 233 = .ok (.iload_n 1, 1) := by decide +kernel
theorem dX11_begin_234 : decode cX11_begin 234 = .ok (.imul, 1) := by decide +kernel
theorem dX11_begin_235 : decode cX11_begin 235 = .ok (.iload 5, 2) := by decide +kernel
theorem dX11_begin_237 : decode cX11_begin 237 = .ok (.iadd, 1) := by decide +kernel
theorem dX11_begin_238 : decode cX11_begin 238 = .ok (.iconst 0, 1) := by decide +kernel
theorem dX11_begin_239 : decode cX11_begin 239 = .ok (.bastore, 1) := by decide +kernel
theorem dX11_begin_240 : decode cX11_begin 240 = .ok (.iinc 5 1, 3) := by decide +kernel
theorem dX11_begin_243 : decode cX11_begin 243 = .ok (.goto (-36), 3) := by decide +kernel
theorem dX11_begin_246 : decode cX11_begin 246 = .ok (.return_, 1) := by decide +kernel
set_option maxRecDepth 20000 in
theorem ggX11_board_X11_isSix : GoodIn wsX11_board wsX11_isSix := goodIn_r _ [4, 5, 6, 3, 7] (by decide +kernel) (by decide +kernel)
set_option maxRecDepth 20000 in
theorem gX11_board_X11_isSix : GoodIn wsX11_board (va_wsS RX11 186 yX11_isSix wsX11_isSix) := goodIn_app (goodIn_of _ (by decide +kernel)) ggX11_board_X11_isSix
set_option maxRecDepth 20000 in
theorem ggX11_board_X11_in : GoodIn wsX11_board wsX11_in := goodIn_r _ [7] (by decide +kernel) (by decide +kernel)
set_option maxRecDepth 20000 in
theorem gX11_board_X11_in : GoodIn wsX11_board (va_wsS RX11 182 yX11_in wsX11_in) := goodIn_app (goodIn_of _ (by decide +kernel)) ggX11_board_X11_in
set_option maxRecDepth 20000 in
theorem ggX11_board_X11_clear : GoodIn wsX11_board wsX11_clear := goodIn_r _ [11, 12, 13, 14, 15, 40, 41, 42, 43, 44, 45, 46, 47, 48, 49, 50, 51, 52, 53, 54, 55, 56, 57, 58, 59, 60, 61, 62, 63, 64, 65, 66, 67, 68, 69, 70, 71, 72, 73, 74, 75, 76, 77, 78, 79, 80, 81, 82, 83, 84, 85, 86, 87, 88, 89, 90, 91, 92, 93, 94, 95, 96, 97, 98, 99, 100, 101, 102, 103, 104, 105] (by decide +kernel) (by decide +kernel)
set_option maxRecDepth 20000 in
theorem gX11_board_X11_clear : GoodIn wsX11_board (wsV RX11 229 RX11 yX11_clear wsX11_clear) := goodIn_app (goodIn_of _ (by decide +kernel)) ggX11_board_X11_clear
set_option maxRecDepth 20000 in
theorem ggX11_board_X11_begin : GoodIn wsX11_board wsX11_begin := goodIn_r _ [19, 12, 20, 21, 22, 23, 24, 25, 26, 27, 28, 29, 30, 31, 32, 33, 34, 35, 36, 37, 38, 39, 40, 41, 42, 43, 44, 45, 46, 47, 48, 49, 50, 51, 52, 53, 54, 55, 56, 57, 58, 59, 60, 61, 62, 63, 64, 65, 66, 67, 68, 69, 70, 71, 72, 73, 74, 75, 76, 77, 78, 79, 80, 81, 82, 83, 84, 85, 86, 87, 88, 89, 90, 91, 92, 93, 94, 95, 96, 97, 98, 99, 100, 101, 102, 103, 104, 105] (by decide +kernel) (by decide +kernel)
set_option maxRecDepth 20000 in
theorem gX11_board_X11_begin : GoodIn wsX11_board (wsV RX11 233 RX11 yX11_begin wsX11_begin) := goodIn_app (goodIn_of _ (by decide +kernel)) ggX11_board_X11_begin
theorem dX11_board_0 : decode cX11_board 0 = .ok (.iload_n 1, 1) := by decide +kernel
theorem dX11_board_1 : decode cX11_board 1 = .ok (.invokestatic 186, 3) := by decide +kernel
theorem dX11_board_4 : decode cX11_board 4 = .ok (.ifCond .eq 38, 3) := by decide +kernel
theorem dX11_board_7 : decode cX11_board 7 = .ok (.iload_n 2, 1) := by decide +kernel
theorem dX11_board_8 : decode cX11_board 8 = .ok (.iconst 0, 1) := by decide +kernel
theorem dX11_board_9 : decode cX11_board 9 = .ok (.iconst 3, 1) := by decide +kernel
theorem dX11_board_10 : decode cX11_board 10 = .ok (.invokestatic 182, 3) := by decide +kernel
theorem dX11_board_13 : decode cX11_board 13 = .ok (.ifCond .eq 29, 3) := by decide +kernel
theorem dX11_board_16 : decode cX11_board 16 = .ok (.iload_n 2, 1) := by decide +kernel
theorem dX11_board_17 : decode cX11_board 17 = .ok (.iconst 2, 1) := by decide +kernel
theorem dX11_board_18 : decode cX11_board 18 = .ok (.if_icmp .eq 24, 3) := by decide +kernel
theorem dX11_board_21 : decode cX11_board 21 = .ok (.iload_n 3, 1) := by decide +kernel
theorem dX11_board_22 : decode cX11_board 22 = .ok (.iconst 2, 1) := by decide +kernel
theorem dX11_board_23 : decode cX11_board 23 = .ok (.bipush 8, 2) := by decide +kernel
theorem dX11_board_25 : decode cX11_board 25 = .ok (.invokestatic 182, 3) := by decide +kernel
theorem dX11_board_28 : decode cX11_board 28 = .ok (.ifCond .eq 14, 3) := by decide +kernel
theorem dX11_board_31 : decode cX11_board 31 = .ok (.iload 4, 2) := by decide +kernel
theorem dX11_board_33 : decode cX11_board 33 = .ok (.iconst 1, 1) := by decide +kernel
theorem dX11_board_34 : decode cX11_board 34 = .ok (.bipush 6, 2) := by decide +kernel
theorem dX11_board_36 : decode cX11_board 36 = .ok (.invokestatic 182, 3) := by decide +kernel
theorem dX11_board_39 : decode cX11_board 39 = .ok (.ifCond .ne 5, 3) := by decide +kernel
theorem dX11_board_42 : decode cX11_board 42 = .ok (.iconst (-1), 1) := by decide +kernel
theorem dX11_board_43 : decode cX11_board 43 = .ok (.ireturn, 1) := by decide +kernel
theorem dX11_board_44 : decode cX11_board 44 = .ok (.aload_n 0, 1) := by decide +kernel
theorem dX11_board_45 : decode cX11_board 45 = .ok (.iload_n 1, 1) := by decide +kernel
theorem dX11_board_46 : decode cX11_board 46 = .ok (.invokevirtual 229, 3) := by decide +kernel
theorem dX11_board_49 : decode cX11_board 49 = .ok (.aload_n 0, 1) := by decide +kernel
theorem dX11_board_50 : decode cX11_board 50 = .ok (.iload_n 1, 1) := by decide +kernel
theorem dX11_board_51 : decode cX11_board 51 = .ok (.iload_n 2, 1) := by decide +kernel
theorem dX11_board_52 : decode cX11_board 52 = .ok (.iload_n 3, 1) := by decide +kernel
theorem dX11_board_53 : decode cX11_board 53 = .ok (.iload 4, 2) := by decide +kernel
theorem dX11_board_55 : decode cX11_board 55 = .ok (.invokevirtual 233, 3) := by decide +kernel
theorem dX11_board_58 : decode cX11_board 58 = .ok (.iload_n 3, 1) := by decide +kernel
theorem dX11_board_59 : decode cX11_board 59 = .ok (.iload 4, 2) := by decide +kernel
theorem dX11_board_61 : decode cX11_board 61 = .ok (.imul, 1) := by decide +kernel
theorem dX11_board_62 : decode cX11_board 62 = .ok (.ireturn, 1) := by decide +kernel
set_option maxRecDepth 20000 in
theorem ggX11_drop_X11_askedFor : GoodIn wsX11_drop wsX11_askedFor := goodIn_r _ [5, 6, 7, 8, 4, 9, 10, 11, 12, 13, 14, 15, 16, 17, 18, 26, 27, 28, 29, 30, 31, 32, 33, 34, 35, 36, 37, 38, 39, 40, 41, 42, 43, 44, 45, 46, 47, 48, 49, 50, 51, 52, 53, 54, 55, 56, 57, 58, 59, 60, 61, 62, 63, 64, 65, 66, 67, 68, 69, 70, 71, 72, 73, 74, 75, 76, 77, 78, 79, 80, 81, 82, 83, 84, 85, 86, 87, 88, 89, 90, 91] (by decide +kernel) (by decide +kernel)
set_option maxRecDepth 20000 in
theorem gX11_drop_X11_askedFor : GoodIn wsX11_drop (wsV RX11 237 RX11 yX11_askedFor wsX11_askedFor) := goodIn_app (goodIn_of _ (by decide +kernel)) ggX11_drop_X11_askedFor
set_option maxRecDepth 20000 in
theorem ggX11_drop_X11_clear : GoodIn wsX11_drop wsX11_clear := goodIn_r _ [22, 6, 23, 24, 25, 26, 27, 28, 29, 30, 31, 32, 33, 34, 35, 36, 37, 38, 39, 40, 41, 42, 43, 44, 45, 46, 47, 48, 49, 50, 51, 52, 53, 54, 55, 56, 57, 58, 59, 60, 61, 62, 63, 64, 65, 66, 67, 68, 69, 70, 71, 72, 73, 74, 75, 76, 77, 78, 79, 80, 81, 82, 83, 84, 85, 86, 87, 88, 89, 90, 91] (by decide +kernel) (by decide +kernel)
set_option maxRecDepth 20000 in
theorem gX11_drop_X11_clear : GoodIn wsX11_drop (wsV RX11 229 RX11 yX11_clear wsX11_clear) := goodIn_app (goodIn_of _ (by decide +kernel)) ggX11_drop_X11_clear
theorem dX11_drop_0 : decode cX11_drop 0 = .ok (.aload_n 0, 1) := by decide +kernel
theorem dX11_drop_1 : decode cX11_drop 1 = .ok (.iload_n 1, 1) := by decide +kernel
theorem dX11_drop_2 : decode cX11_drop 2 = .ok (.invokevirtual 237, 3) := by decide +kernel
theorem dX11_drop_5 : decode cX11_drop 5 = .ok (.istore_n 2, 1) := by decide +kernel
theorem dX11_drop_6 : decode cX11_drop 6 = .ok (.iload_n 2, 1) := by decide +kernel
theorem dX11_drop_7 : decode cX11_drop 7 = .ok (.ifCond .ge 5, 3) := by decide +kernel
theorem dX11_drop_10 : decode cX11_drop 10 = .ok (.iload_n 2, 1) := by decide +kernel
theorem dX11_drop_11 : decode cX11_drop 11 = .ok (.ireturn, 1) := by decide +kernel
theorem dX11_drop_12 : decode cX11_drop 12 = .ok (.aload_n 0, 1) := by decide +kernel
theorem dX11_drop_13 : decode cX11_drop 13 = .ok (.iload_n 1, 1) := by decide +kernel
theorem dX11_drop_14 : decode cX11_drop 14 = .ok (.invokevirtual 229, 3) := by decide +kernel
theorem dX11_drop_17 : decode cX11_drop 17 = .ok (.iconst 1, 1) := by decide +kernel
theorem dX11_drop_18 : decode cX11_drop 18 = .ok (.ireturn, 1) := by decide +kernel
set_option maxRecDepth 20000 in
theorem ggX11_askedCell_X11_askedFor : GoodIn wsX11_askedCell wsX11_askedFor := goodIn_r _ [5, 6, 7, 8, 4, 9, 10, 11, 12, 13, 14, 15, 16, 17, 18, 29, 30, 31, 32, 33, 34, 35, 36, 37, 38, 39, 40, 41, 42, 43, 44, 45, 46, 47, 48, 49, 50, 51, 52, 53, 54, 55, 56, 57, 58, 59, 60, 61, 62, 63, 64, 65, 66, 67, 68, 69, 70, 71, 72, 73, 74, 75, 76, 77, 78, 79, 80, 81, 82, 83, 84, 85, 86, 87, 88, 89, 90, 91, 92, 93, 94] (by decide +kernel) (by decide +kernel)
set_option maxRecDepth 20000 in
theorem gX11_askedCell_X11_askedFor : GoodIn wsX11_askedCell (wsV RX11 237 RX11 yX11_askedFor wsX11_askedFor) := goodIn_app (goodIn_of _ (by decide +kernel)) ggX11_askedCell_X11_askedFor
set_option maxRecDepth 20000 in
theorem ggX11_askedCell_X11_isCell : GoodIn wsX11_askedCell wsX11_isCell := goodIn_r _ [22, 23, 24, 25, 4, 26, 27, 28, 10, 11, 12, 29, 30, 31, 32, 33, 34, 35, 36, 37, 38, 39, 40, 41, 42, 43, 44, 45, 46, 47, 48, 49, 50, 51, 52, 53, 54, 55, 56, 57, 58, 59, 60, 61, 62, 63, 64, 65, 66, 67, 68, 69, 70, 71, 72, 73, 74, 75, 76, 77, 78, 79, 80, 81, 82, 83, 84, 85, 86, 87, 88, 89, 90, 91, 92, 93, 94] (by decide +kernel) (by decide +kernel)
set_option maxRecDepth 20000 in
theorem gX11_askedCell_X11_isCell : GoodIn wsX11_askedCell (wsV RX11 226 RX11 yX11_isCell wsX11_isCell) := goodIn_app (goodIn_of _ (by decide +kernel)) ggX11_askedCell_X11_isCell
set_option maxRecDepth 20000 in
theorem ggX11_askedCell_X11_meets : GoodIn wsX11_askedCell wsX11_meets := goodIn_r _ [16, 17, 18, 29, 30, 31, 32, 33, 34, 35, 36, 37, 38, 39, 40, 41, 42, 43, 44, 45, 46, 47, 48, 49, 50, 51, 52, 53, 54, 55, 56, 57, 58, 59, 60, 61, 62, 63, 64, 65, 66, 67, 68, 69, 70, 71, 72, 73, 74, 75, 76, 77, 78, 79, 80, 81, 82, 83, 84, 85, 86, 87, 88, 89, 90, 91, 92, 93, 94] (by decide +kernel) (by decide +kernel)
set_option maxRecDepth 20000 in
theorem gX11_askedCell_X11_meets : GoodIn wsX11_askedCell (wsV RX11 190 RX11 yX11_meets wsX11_meets) := goodIn_app (goodIn_of _ (by decide +kernel)) ggX11_askedCell_X11_meets
theorem dX11_askedCell_0 : decode cX11_askedCell 0 = .ok (.aload_n 0, 1) := by decide +kernel
theorem dX11_askedCell_1 : decode cX11_askedCell 1 = .ok (.iload_n 1, 1) := by decide +kernel
theorem dX11_askedCell_2 : decode cX11_askedCell 2 = .ok (.invokevirtual 237, 3) := by decide +kernel
theorem dX11_askedCell_5 : decode cX11_askedCell 5 = .ok (.istore_n 3, 1) := by decide +kernel
theorem dX11_askedCell_6 : decode cX11_askedCell 6 = .ok (.iload_n 3, 1) := by decide +kernel
theorem dX11_askedCell_7 : decode cX11_askedCell 7 = .ok (.ifCond .ge 7, 3) := by decide +kernel
theorem dX11_askedCell_10 : decode cX11_askedCell 10 = .ok (.iload_n 3, 1) := by decide +kernel
theorem dX11_askedCell_11 : decode cX11_askedCell 11 = .ok (.goto 21, 3) := by decide +kernel
theorem dX11_askedCell_14 : decode cX11_askedCell 14 = .ok (.aload_n 0, 1) := by decide +kernel
theorem dX11_askedCell_15 : decode cX11_askedCell 15 = .ok (.iload_n 1, 1) := by decide +kernel
theorem dX11_askedCell_16 : decode cX11_askedCell 16 = .ok (.iload_n 2, 1) := by decide +kernel
theorem dX11_askedCell_17 : decode cX11_askedCell 17 = .ok (.invokevirtual 226, 3) := by decide +kernel
theorem dX11_askedCell_20 : decode cX11_askedCell 20 = .ok (.ifCond .eq 7, 3) := by decide +kernel
theorem dX11_askedCell_23 : decode cX11_askedCell 23 = .ok (.iconst 0, 1) := by decide +kernel
theorem dX11_askedCell_24 : decode cX11_askedCell 24 = .ok (.goto 8, 3) := by decide +kernel
theorem dX11_askedCell_27 : decode cX11_askedCell 27 = .ok (.aload_n 0, 1) := by decide +kernel
theorem dX11_askedCell_28 : decode cX11_askedCell 28 = .ok (.iconst 2, 1) := by decide +kernel
theorem dX11_askedCell_29 : decode cX11_askedCell 29 = .ok (.invokevirtual 190, 3) := by decide +kernel
theorem dX11_askedCell_32 : decode cX11_askedCell 32 = .ok (.ireturn, 1) := by decide +kernel
set_option maxRecDepth 20000 in
theorem ggX11_bottom_X11_in : GoodIn wsX11_bottom wsX11_in := goodIn_r _ [6] (by decide +kernel) (by decide +kernel)
set_option maxRecDepth 20000 in
theorem gX11_bottom_X11_in : GoodIn wsX11_bottom (va_wsS RX11 182 yX11_in wsX11_in) := goodIn_app (goodIn_of _ (by decide +kernel)) ggX11_bottom_X11_in
set_option maxRecDepth 20000 in
theorem ggX11_bottom_X11_askedCell : GoodIn wsX11_bottom wsX11_askedCell := goodIn_r _ [10, 11, 12, 13, 5, 14, 15, 16, 17, 18, 3, 4, 6, 19, 20, 21, 22, 23, 24, 25, 26, 27, 28, 29, 30, 31, 32, 33, 34, 35, 36, 37, 38, 39, 40, 41, 42, 43, 44, 45, 46, 47, 48, 49, 50, 51, 52, 53, 54, 55, 56, 57, 58, 59, 60, 61, 62, 63, 64, 65, 66, 67, 68, 69, 70, 71, 72, 73, 74, 75, 76, 77, 78, 79, 80, 81, 82, 83, 84, 85, 86, 87, 88, 89, 90, 91, 92, 93, 94, 95, 96, 97, 98, 99, 100] (by decide +kernel) (by decide +kernel)
set_option maxRecDepth 20000 in
theorem gX11_bottom_X11_askedCell : GoodIn wsX11_bottom (wsV RX11 240 RX11 yX11_askedCell wsX11_askedCell) := goodIn_app (goodIn_of _ (by decide +kernel)) ggX11_bottom_X11_askedCell
theorem dX11_bottom_0 : decode cX11_bottom 0 = .ok (.iload_n 3, 1) := by decide +kernel
theorem dX11_bottom_1 : decode cX11_bottom 1 = .ok (.sipush (-1000), 3) := by decide +kernel
theorem dX11_bottom_4 : decode cX11_bottom 4 = .ok (.sipush 1000, 3) := by decide +kernel
theorem dX11_bottom_7 : decode cX11_bottom 7 = .ok (.invokestatic 182, 3) := by decide +kernel
theorem dX11_bottom_10 : decode cX11_bottom 10 = .ok (.ifCond .ne 5, 3) := by decide +kernel
theorem dX11_bottom_13 : decode cX11_bottom 13 = .ok (.iconst (-1), 1) := by decide +kernel
theorem dX11_bottom_14 : decode cX11_bottom 14 = .ok (.ireturn, 1) := by decide +kernel
theorem dX11_bottom_15 : decode cX11_bottom 15 = .ok (.aload_n 0, 1) := by decide +kernel
theorem dX11_bottom_16 : decode cX11_bottom 16 = .ok (.iload_n 1, 1) := by decide +kernel
theorem dX11_bottom_17 : decode cX11_bottom 17 = .ok (.iload_n 2, 1) := by decide +kernel
theorem dX11_bottom_18 : decode cX11_bottom 18 = .ok (.invokevirtual 240, 3) := by decide +kernel
theorem dX11_bottom_21 : decode cX11_bottom 21 = .ok (.istore 4, 2) := by decide +kernel
theorem dX11_bottom_23 : decode cX11_bottom 23 = .ok (.iload 4, 2) := by decide +kernel
theorem dX11_bottom_25 : decode cX11_bottom 25 = .ok (.ifCond .ge 6, 3) := by decide +kernel
theorem dX11_bottom_28 : decode cX11_bottom 28 = .ok (.iload 4, 2) := by decide +kernel
theorem dX11_bottom_30 : decode cX11_bottom 30 = .ok (.ireturn, 1) := by decide +kernel
theorem dX11_bottom_31 : decode cX11_bottom 31 = .ok (.aload_n 0, 1) := by decide +kernel
theorem dX11_bottom_32 : decode cX11_bottom 32 = .ok (.aload_n 0, 1) := by decide +kernel
theorem dX11_bottom_33 : decode cX11_bottom 33 = .ok (.getfield 89, 3) := by decide +kernel
theorem dX11_bottom_36 : decode cX11_bottom 36 = .ok (.bipush 48, 2) := by decide +kernel
theorem dX11_bottom_38 : decode cX11_bottom 38 = .ok (.iload_n 1, 1) := by decide +kernel
theorem dX11_bottom_39 : decode cX11_bottom 39 = .ok (.imul, 1) := by decide +kernel
theorem dX11_bottom_40 : decode cX11_bottom 40 = .ok (.iload_n 2, 1) := by decide +kernel
theorem dX11_bottom_41 : decode cX11_bottom 41 = .ok (.iadd, 1) := by decide +kernel
theorem dX11_bottom_42 : decode cX11_bottom 42 = .ok (.iaload, 1) := by decide +kernel
theorem dX11_bottom_43 : decode cX11_bottom 43 = .ok (.putfield 176, 3) := by decide +kernel
theorem dX11_bottom_46 : decode cX11_bottom 46 = .ok (.aload_n 0, 1) := by decide +kernel
theorem dX11_bottom_47 : decode cX11_bottom 47 = .ok (.getfield 89, 3) := by decide +kernel
theorem dX11_bottom_50 : decode cX11_bottom 50 = .ok (.bipush 48, 2) := by decide +kernel
theorem dX11_bottom_52 : decode cX11_bottom 52 = .ok (.iload_n 1, 1) := by decide +kernel
theorem dX11_bottom_53 : decode cX11_bottom 53 = .ok (.imul, 1) := by decide +kernel
theorem dX11_bottom_54 : decode cX11_bottom 54 = .ok (.iload_n 2, 1) := by decide +kernel
theorem dX11_bottom_55 : decode cX11_bottom 55 = .ok (.iadd, 1) := by decide +kernel
theorem dX11_bottom_56 : decode cX11_bottom 56 = .ok (.iload_n 3, 1) := by decide +kernel
theorem dX11_bottom_57 : decode cX11_bottom 57 = .ok (.iastore, 1) := by decide +kernel
theorem dX11_bottom_58 : decode cX11_bottom 58 = .ok (.iconst 1, 1) := by decide +kernel
theorem dX11_bottom_59 : decode cX11_bottom 59 = .ok (.ireturn, 1) := by decide +kernel
set_option maxRecDepth 20000 in
theorem ggX11_water_X11_in : GoodIn wsX11_water wsX11_in := goodIn_r _ [6] (by decide +kernel) (by decide +kernel)
set_option maxRecDepth 20000 in
theorem gX11_water_X11_in : GoodIn wsX11_water (va_wsS RX11 182 yX11_in wsX11_in) := goodIn_app (goodIn_of _ (by decide +kernel)) ggX11_water_X11_in
set_option maxRecDepth 20000 in
theorem ggX11_water_X11_askedCell : GoodIn wsX11_water wsX11_askedCell := goodIn_r _ [10, 11, 12, 13, 5, 14, 15, 16, 17, 18, 3, 4, 6, 19, 20, 21, 22, 23, 24, 25, 26, 27, 28, 29, 30, 31, 32, 33, 34, 35, 36, 37, 38, 39, 40, 41, 42, 43, 44, 45, 46, 47, 48, 49, 50, 51, 52, 53, 54, 55, 56, 57, 58, 59, 60, 61, 62, 63, 64, 65, 66, 67, 68, 69, 70, 71, 72, 73, 74, 75, 76, 77, 78, 79, 80, 81, 82, 83, 84, 85, 86, 87, 88, 89, 90, 91, 92, 93, 94, 95, 96, 97, 98, 99, 100] (by decide +kernel) (by decide +kernel)
set_option maxRecDepth 20000 in
theorem gX11_water_X11_askedCell : GoodIn wsX11_water (wsV RX11 240 RX11 yX11_askedCell wsX11_askedCell) := goodIn_app (goodIn_of _ (by decide +kernel)) ggX11_water_X11_askedCell
theorem dX11_water_0 : decode cX11_water 0 = .ok (.iload_n 3, 1) := by decide +kernel
theorem dX11_water_1 : decode cX11_water 1 = .ok (.iconst 0, 1) := by decide +kernel
theorem dX11_water_2 : decode cX11_water 2 = .ok (.ldc 195, 2) := by decide +kernel
theorem dX11_water_4 : decode cX11_water 4 = .ok (.invokestatic 182, 3) := by decide +kernel
theorem dX11_water_7 : decode cX11_water 7 = .ok (.ifCond .ne 5, 3) := by decide +kernel
theorem dX11_water_10 : decode cX11_water 10 = .ok (.iconst (-1), 1) := by decide +kernel
theorem dX11_water_11 : decode cX11_water 11 = .ok (.ireturn, 1) := by decide +kernel
theorem dX11_water_12 : decode cX11_water 12 = .ok (.aload_n 0, 1) := by decide +kernel
theorem dX11_water_13 : decode cX11_water 13 = .ok (.iload_n 1, 1) := by decide +kernel
theorem dX11_water_14 : decode cX11_water 14 = .ok (.iload_n 2, 1) := by decide +kernel
theorem dX11_water_15 : decode cX11_water 15 = .ok (.invokevirtual 240, 3) := by decide +kernel
theorem dX11_water_18 : decode cX11_water 18 = .ok (.istore 4, 2) := by decide +kernel
theorem dX11_water_20 : decode cX11_water 20 = .ok (.iload 4, 2) := by decide +kernel
theorem dX11_water_22 : decode cX11_water 22 = .ok (.ifCond .ge 6, 3) := by decide +kernel
theorem dX11_water_25 : decode cX11_water 25 = .ok (.iload 4, 2) := by decide +kernel
theorem dX11_water_27 : decode cX11_water 27 = .ok (.ireturn, 1) := by decide +kernel
theorem dX11_water_28 : decode cX11_water 28 = .ok (.aload_n 0, 1) := by decide +kernel
theorem dX11_water_29 : decode cX11_water 29 = .ok (.getfield 92, 3) := by decide +kernel
theorem dX11_water_32 : decode cX11_water 32 = .ok (.bipush 48, 2) := by decide +kernel
theorem dX11_water_34 : decode cX11_water 34 = .ok (.iload_n 1, 1) := by decide +kernel
theorem dX11_water_35 : decode cX11_water 35 = .ok (.imul, 1) := by decide +kernel
theorem dX11_water_36 : decode cX11_water 36 = .ok (.iload_n 2, 1) := by decide +kernel
theorem dX11_water_37 : decode cX11_water 37 = .ok (.iadd, 1) := by decide +kernel
theorem dX11_water_38 : decode cX11_water 38 = .ok (.iaload, 1) := by decide +kernel
theorem dX11_water_39 : decode cX11_water 39 = .ok (.istore 5, 2) := by decide +kernel
theorem dX11_water_41 : decode cX11_water 41 = .ok (.aload_n 0, 1) := by decide +kernel
theorem dX11_water_42 : decode cX11_water 42 = .ok (.getfield 92, 3) := by decide +kernel
theorem dX11_water_45 : decode cX11_water 45 = .ok (.bipush 48, 2) := by decide +kernel
theorem dX11_water_47 : decode cX11_water 47 = .ok (.iload_n 1, 1) := by decide +kernel
theorem dX11_water_48 : decode cX11_water 48 = .ok (.imul, 1) := by decide +kernel
theorem dX11_water_49 : decode cX11_water 49 = .ok (.iload_n 2, 1) := by decide +kernel
theorem dX11_water_50 : decode cX11_water 50 = .ok (.iadd, 1) := by decide +kernel
theorem dX11_water_51 : decode cX11_water 51 = .ok (.iload_n 3, 1) := by decide +kernel
theorem dX11_water_52 : decode cX11_water 52 = .ok (.iastore, 1) := by decide +kernel
theorem dX11_water_53 : decode cX11_water 53 = .ok (.iload 5, 2) := by decide +kernel
theorem dX11_water_55 : decode cX11_water 55 = .ok (.ireturn, 1) := by decide +kernel
set_option maxRecDepth 20000 in
theorem ggX11_spill_X11_in : GoodIn wsX11_spill wsX11_in := goodIn_r _ [6] (by decide +kernel) (by decide +kernel)
set_option maxRecDepth 20000 in
theorem gX11_spill_X11_in : GoodIn wsX11_spill (va_wsS RX11 182 yX11_in wsX11_in) := goodIn_app (goodIn_of _ (by decide +kernel)) ggX11_spill_X11_in
set_option maxRecDepth 20000 in
theorem ggX11_spill_X11_askedCell : GoodIn wsX11_spill wsX11_askedCell := goodIn_r _ [10, 11, 12, 13, 5, 14, 15, 16, 17, 18, 3, 4, 6, 19, 20, 21, 22, 23, 24, 25, 26, 27, 28, 29, 30, 31, 32, 33, 34, 35, 36, 37, 38, 39, 40, 41, 42, 43, 44, 45, 46, 47, 48, 49, 50, 51, 52, 53, 54, 55, 56, 57, 58, 59, 60, 61, 62, 63, 64, 65, 66, 67, 68, 69, 70, 71, 72, 73, 74, 75, 76, 77, 78, 79, 80, 81, 82, 83, 84, 85, 86, 87, 88, 89, 90, 91, 92, 93, 94, 95, 96, 97, 98, 99, 100] (by decide +kernel) (by decide +kernel)
set_option maxRecDepth 20000 in
theorem gX11_spill_X11_askedCell : GoodIn wsX11_spill (wsV RX11 240 RX11 yX11_askedCell wsX11_askedCell) := goodIn_app (goodIn_of _ (by decide +kernel)) ggX11_spill_X11_askedCell
theorem dX11_spill_0 : decode cX11_spill 0 = .ok (.iload_n 3, 1) := by decide +kernel
theorem dX11_spill_1 : decode cX11_spill 1 = .ok (.iconst 0, 1) := by decide +kernel
theorem dX11_spill_2 : decode cX11_spill 2 = .ok (.iconst 2, 1) := by decide +kernel
theorem dX11_spill_3 : decode cX11_spill 3 = .ok (.invokestatic 182, 3) := by decide +kernel
theorem dX11_spill_6 : decode cX11_spill 6 = .ok (.ifCond .eq 14, 3) := by decide +kernel
theorem dX11_spill_9 : decode cX11_spill 9 = .ok (.iload 4, 2) := by decide +kernel
theorem dX11_spill_11 : decode cX11_spill 11 = .ok (.iconst 0, 1) := by decide +kernel
theorem dX11_spill_12 : decode cX11_spill 12 = .ok (.ldc 195, 2) := by decide +kernel
theorem dX11_spill_14 : decode cX11_spill 14 = .ok (.invokestatic 182, 3) := by decide +kernel
theorem dX11_spill_17 : decode cX11_spill 17 = .ok (.ifCond .ne 5, 3) := by decide +kernel
theorem dX11_spill_20 : decode cX11_spill 20 = .ok (.iconst (-1), 1) := by decide +kernel
theorem dX11_spill_21 : decode cX11_spill 21 = .ok (.ireturn, 1) := by decide +kernel
theorem dX11_spill_22 : decode cX11_spill 22 = .ok (.aload_n 0, 1) := by decide +kernel
theorem dX11_spill_23 : decode cX11_spill 23 = .ok (.iload_n 1, 1) := by decide +kernel
theorem dX11_spill_24 : decode cX11_spill 24 = .ok (.iload_n 2, 1) := by decide +kernel
theorem dX11_spill_25 : decode cX11_spill 25 = .ok (.invokevirtual 240, 3) := by decide +kernel
theorem dX11_spill_28 : decode cX11_spill 28 = .ok (.istore 5, 2) := by decide +kernel
theorem dX11_spill_30 : decode cX11_spill 30 = .ok (.iload 5, 2) := by decide +kernel
theorem dX11_spill_32 : decode cX11_spill 32 = .ok (.ifCond .ge 6, 3) := by decide +kernel
theorem dX11_spill_35 : decode cX11_spill 35 = .ok (.iload 5, 2) := by decide +kernel
theorem dX11_spill_37 : decode cX11_spill 37 = .ok (.ireturn, 1) := by decide +kernel
theorem dX11_spill_38 : decode cX11_spill 38 = .ok (.sipush 144, 3) := by decide +kernel
theorem dX11_spill_41 : decode cX11_spill 41 = .ok (.iload_n 1, 1) := by decide +kernel
theorem dX11_spill_42 : decode cX11_spill 42 = .ok (.imul, 1) := by decide +kernel
theorem dX11_spill_43 : decode cX11_spill 43 = .ok (.bipush 48, 2) := by decide +kernel
theorem dX11_spill_45 : decode cX11_spill 45 = .ok (.iload_n 3, 1) := by decide +kernel
theorem dX11_spill_46 : decode cX11_spill 46 = .ok (.imul, 1) := by decide +kernel
theorem dX11_spill_47 : decode cX11_spill 47 = .ok (.iadd, 1) := by decide +kernel
theorem dX11_spill_48 : decode cX11_spill 48 = .ok (.iload_n 2, 1) := by decide +kernel
theorem dX11_spill_49 : decode cX11_spill 49 = .ok (.iadd, 1) := by decide +kernel
theorem dX11_spill_50 : decode cX11_spill 50 = .ok (.istore 6, 2) := by decide +kernel
theorem dX11_spill_52 : decode cX11_spill 52 = .ok (.aload_n 0, 1) := by decide +kernel
theorem dX11_spill_53 : decode cX11_spill 53 = .ok (.getfield 95, 3) := by decide +kernel
theorem dX11_spill_56 : decode cX11_spill 56 = .ok (.iload 6, 2) := by decide +kernel
theorem dX11_spill_58 : decode cX11_spill 58 = .ok (.iaload, 1) := by decide +kernel
theorem dX11_spill_59 : decode cX11_spill 59 = .ok (.istore 7, 2) := by decide +kernel
theorem dX11_spill_61 : decode cX11_spill 61 = .ok (.aload_n 0, 1) := by decide +kernel
theorem dX11_spill_62 : decode cX11_spill 62 = .ok (.getfield 95, 3) := by decide +kernel
theorem dX11_spill_65 : decode cX11_spill 65 = .ok (.iload 6, 2) := by decide +kernel
theorem dX11_spill_67 : decode cX11_spill 67 = .ok (.iload 4, 2) := by decide +kernel
theorem dX11_spill_69 : decode cX11_spill 69 = .ok (.iastore, 1) := by decide +kernel
theorem dX11_spill_70 : decode cX11_spill 70 = .ok (.iload 7, 2) := by decide +kernel
theorem dX11_spill_72 : decode cX11_spill 72 = .ok (.ireturn, 1) := by decide +kernel
set_option maxRecDepth 20000 in
theorem ggX11_cell_X11_in : GoodIn wsX11_cell wsX11_in := goodIn_r _ [7] (by decide +kernel) (by decide +kernel)
set_option maxRecDepth 20000 in
theorem gX11_cell_X11_in : GoodIn wsX11_cell (va_wsS RX11 182 yX11_in wsX11_in) := goodIn_app (goodIn_of _ (by decide +kernel)) ggX11_cell_X11_in
set_option maxRecDepth 20000 in
theorem ggX11_cell_X11_askedCell : GoodIn wsX11_cell wsX11_askedCell := goodIn_r _ [11, 12, 13, 14, 6, 15, 16, 17, 18, 19, 4, 5, 7, 20, 21, 22, 23, 24, 25, 26, 27, 28, 29, 30, 31, 32, 33, 34, 35, 45, 46, 47, 48, 49, 50, 51, 52, 53, 54, 55, 56, 57, 58, 59, 60, 61, 62, 63, 64, 65, 66, 67, 68, 69, 70, 71, 72, 73, 74, 75, 76, 77, 78, 79, 80, 81, 82, 83, 84, 85, 86, 87, 88, 89, 90, 91, 92, 93, 94, 95, 96, 97, 98, 99, 100, 101, 102, 103, 104, 105, 106, 107, 108, 109, 110] (by decide +kernel) (by decide +kernel)
set_option maxRecDepth 20000 in
theorem gX11_cell_X11_askedCell : GoodIn wsX11_cell (wsV RX11 240 RX11 yX11_askedCell wsX11_askedCell) := goodIn_app (goodIn_of _ (by decide +kernel)) ggX11_cell_X11_askedCell
set_option maxRecDepth 20000 in
theorem ggX11_cell_X11_level : GoodIn wsX11_cell wsX11_level := goodIn_r _ [39, 1, 2, 45, 46, 47, 48, 49, 50, 51, 52, 53, 54, 55, 56, 57, 58, 59, 60, 61, 62, 63, 64, 65, 66, 67, 68, 69, 70, 71, 72, 73, 74, 75, 76, 77, 78, 79, 80, 81, 82, 83, 84, 85, 86, 87, 88, 89, 90, 91, 92, 93, 94, 95, 96, 97, 98, 99, 100, 101, 102, 103, 104, 105, 106, 107, 108, 109, 110] (by decide +kernel) (by decide +kernel)
set_option maxRecDepth 20000 in
theorem gX11_cell_X11_level : GoodIn wsX11_cell (wsV RX11 243 RX11 yX11_level wsX11_level) := goodIn_app (goodIn_of _ (by decide +kernel)) ggX11_cell_X11_level
set_option maxRecDepth 20000 in
theorem ggX11_cell_X11_ask : GoodIn wsX11_cell wsX11_ask := goodIn_r _ [43, 44, 45, 46, 47, 48, 49, 50, 51, 52, 53, 54, 55, 56, 57, 58, 59, 60, 61, 62, 63, 64, 65, 66, 67, 68, 69, 70, 71, 72, 73, 74, 75, 76, 77, 78, 79, 80, 81, 82, 83, 84, 85, 86, 87, 88, 89, 90, 91, 92, 93, 94, 95, 96, 97, 98, 99, 100, 101, 102, 103, 104, 105, 106, 107, 108, 109, 110] (by decide +kernel) (by decide +kernel)
set_option maxRecDepth 20000 in
theorem gX11_cell_X11_ask : GoodIn wsX11_cell (wsV RX11 202 RX11 yX11_ask wsX11_ask) := goodIn_app (goodIn_of _ (by decide +kernel)) ggX11_cell_X11_ask
theorem dX11_cell_0 : decode cX11_cell 0 = .ok (.iload_n 3, 1) := by decide +kernel
theorem dX11_cell_1 : decode cX11_cell 1 = .ok (.iconst 0, 1) := by decide +kernel
theorem dX11_cell_2 : decode cX11_cell 2 = .ok (.iconst 5, 1) := by decide +kernel
theorem dX11_cell_3 : decode cX11_cell 3 = .ok (.invokestatic 182, 3) := by decide +kernel
theorem dX11_cell_6 : decode cX11_cell 6 = .ok (.ifCond .ne 5, 3) := by decide +kernel
theorem dX11_cell_9 : decode cX11_cell 9 = .ok (.iconst (-1), 1) := by decide +kernel
theorem dX11_cell_10 : decode cX11_cell 10 = .ok (.ireturn, 1) := by decide +kernel
theorem dX11_cell_11 : decode cX11_cell 11 = .ok (.aload_n 0, 1) := by decide +kernel
theorem dX11_cell_12 : decode cX11_cell 12 = .ok (.iload_n 1, 1) := by decide +kernel
theorem dX11_cell_13 : decode cX11_cell 13 = .ok (.iload_n 2, 1) := by decide +kernel
theorem dX11_cell_14 : decode cX11_cell 14 = .ok (.invokevirtual 240, 3) := by decide +kernel
theorem dX11_cell_17 : decode cX11_cell 17 = .ok (.istore 4, 2) := by decide +kernel
theorem dX11_cell_19 : decode cX11_cell 19 = .ok (.iload 4, 2) := by decide +kernel
theorem dX11_cell_21 : decode cX11_cell 21 = .ok (.ifCond .ge 6, 3) := by decide +kernel
theorem dX11_cell_24 : decode cX11_cell 24 = .ok (.iload 4, 2) := by decide +kernel
theorem dX11_cell_26 : decode cX11_cell 26 = .ok (.ireturn, 1) := by decide +kernel
theorem dX11_cell_27 : decode cX11_cell 27 = .ok (.aload_n 0, 1) := by decide +kernel
theorem dX11_cell_28 : decode cX11_cell 28 = .ok (.iload_n 3, 1) := by decide +kernel
theorem dX11_cell_29 : decode cX11_cell 29 = .ok (.ifCond .ne 17, 3) := by decide +kernel
theorem dX11_cell_32 : decode cX11_cell 32 = .ok (.aload_n 0, 1) := by decide +kernel
theorem dX11_cell_33 : decode cX11_cell 33 = .ok (.getfield 89, 3) := by decide +kernel
theorem dX11_cell_36 : decode cX11_cell 36 = .ok (.bipush 48, 2) := by decide +kernel
theorem dX11_cell_38 : decode cX11_cell 38 = .ok (.iload_n 1, 1) := by decide +kernel
theorem dX11_cell_39 : decode cX11_cell 39 = .ok (.imul, 1) := by decide +kernel
theorem dX11_cell_40 : decode cX11_cell 40 = .ok (.iload_n 2, 1) := by decide +kernel
theorem dX11_cell_41 : decode cX11_cell 41 = .ok (.iadd, 1) := by decide +kernel
theorem dX11_cell_42 : decode cX11_cell 42 = .ok (.iaload, 1) := by decide +kernel
theorem dX11_cell_43 : decode cX11_cell 43 = .ok (.goto 55, 3) := by decide +kernel
theorem dX11_cell_46 : decode cX11_cell 46 = .ok (.iload_n 3, 1) := by decide +kernel
theorem dX11_cell_47 : decode cX11_cell 47 = .ok (.iconst 1, 1) := by decide +kernel
theorem dX11_cell_48 : decode cX11_cell 48 = .ok (.if_icmp .ne 17, 3) := by decide +kernel
theorem dX11_cell_51 : decode cX11_cell 51 = .ok (.aload_n 0, 1) := by decide +kernel
theorem dX11_cell_52 : decode cX11_cell 52 = .ok (.getfield 92, 3) := by decide +kernel
theorem dX11_cell_55 : decode cX11_cell 55 = .ok (.bipush 48, 2) := by decide +kernel
theorem dX11_cell_57 : decode cX11_cell 57 = .ok (.iload_n 1, 1) := by decide +kernel
theorem dX11_cell_58 : decode cX11_cell 58 = .ok (.imul, 1) := by decide +kernel
theorem dX11_cell_59 : decode cX11_cell 59 = .ok (.iload_n 2, 1) := by decide +kernel
theorem dX11_cell_60 : decode cX11_cell 60 = .ok (.iadd, 1) := by decide +kernel
theorem dX11_cell_61 : decode cX11_cell 61 = .ok (.iaload, 1) := by decide +kernel
theorem dX11_cell_62 : decode cX11_cell 62 = .ok (.goto 36, 3) := by decide +kernel
theorem dX11_cell_65 : decode cX11_cell 65 = .ok (.iload_n 3, 1) := by decide +kernel
theorem dX11_cell_66 : decode cX11_cell 66 = .ok (.iconst 2, 1) := by decide +kernel
theorem dX11_cell_67 : decode cX11_cell 67 = .ok (.if_icmp .ne 12, 3) := by decide +kernel
theorem dX11_cell_70 : decode cX11_cell 70 = .ok (.aload_n 0, 1) := by decide +kernel
theorem dX11_cell_71 : decode cX11_cell 71 = .ok (.iload_n 1, 1) := by decide +kernel
theorem dX11_cell_72 : decode cX11_cell 72 = .ok (.iload_n 2, 1) := by decide +kernel
theorem dX11_cell_73 : decode cX11_cell 73 = .ok (.invokevirtual 243, 3) := by decide +kernel
theorem dX11_cell_76 : decode cX11_cell 76 = .ok (.goto 22, 3) := by decide +kernel
theorem dX11_cell_79 : decode cX11_cell 79 = .ok (.aload_n 0, 1) := by decide +kernel
theorem dX11_cell_80 : decode cX11_cell 80 = .ok (.getfield 95, 3) := by decide +kernel
theorem dX11_cell_83 : decode cX11_cell 83 = .ok (.sipush 144, 3) := by decide +kernel
theorem dX11_cell_86 : decode cX11_cell 86 = .ok (.iload_n 1, 1) := by decide +kernel
theorem dX11_cell_87 : decode cX11_cell 87 = .ok (.imul, 1) := by decide +kernel
theorem dX11_cell_88 : decode cX11_cell 88 = .ok (.bipush 48, 2) := by decide +kernel
theorem dX11_cell_90 : decode cX11_cell 90 = .ok (.iload_n 3, 1) := by decide +kernel
theorem dX11_cell_91 : decode cX11_cell 91 = .ok (.iconst 3, 1) := by decide +kernel
theorem dX11_cell_92 : decode cX11_cell 92 = .ok (.isub, 1) := by decide +kernel
theorem dX11_cell_93 : decode cX11_cell 93 = .ok (.imul, 1) := by decide +kernel
theorem dX11_cell_94 : decode cX11_cell 94 = .ok (.iadd, 1) := by decide +kernel
theorem dX11_cell_95 : decode cX11_cell 95 = .ok (.iload_n 2, 1) := by decide +kernel
theorem dX11_cell_96 : decode cX11_cell 96 = .ok (.iadd, 1) := by decide +kernel
theorem dX11_cell_97 : decode cX11_cell 97 = .ok (.iaload, 1) := by decide +kernel
theorem dX11_cell_98 : decode cX11_cell 98 = .ok (.iconst 1, 1) := by decide +kernel
theorem dX11_cell_99 : decode cX11_cell 99 = .ok (.invokevirtual 202, 3) := by decide +kernel
theorem dX11_cell_102 : decode cX11_cell 102 = .ok (.ireturn, 1) := by decide +kernel
set_option maxRecDepth 20000 in
theorem ggX11_askedFace_X11_askedFor : GoodIn wsX11_askedFace wsX11_askedFor := goodIn_r _ [5, 6, 7, 8, 4, 9, 10, 11, 12, 13, 14, 15, 16, 17, 18, 33, 34, 35, 36, 37, 38, 39, 40, 41, 42, 43, 44, 45, 46, 47, 48, 49, 50, 51, 52, 53, 54, 55, 56, 57, 58, 59, 60, 61, 62, 63, 64, 65, 66, 67, 68, 69, 70, 71, 72, 73, 74, 75, 76, 77, 78, 79, 80, 81, 82, 83, 84, 85, 86, 87, 88, 89, 90, 91, 92, 93, 94, 95, 96, 97, 98] (by decide +kernel) (by decide +kernel)
set_option maxRecDepth 20000 in
theorem gX11_askedFace_X11_askedFor : GoodIn wsX11_askedFace (wsV RX11 237 RX11 yX11_askedFor wsX11_askedFor) := goodIn_app (goodIn_of _ (by decide +kernel)) ggX11_askedFace_X11_askedFor
set_option maxRecDepth 20000 in
theorem ggX11_askedFace_X11_beyond : GoodIn wsX11_askedFace wsX11_beyond := goodIn_r _ [22, 23, 24, 25, 26, 4, 27, 28, 29, 30, 31, 32, 10, 11, 12, 33, 34, 35, 36, 37, 38, 39, 40, 41, 42, 43, 44, 45, 46, 47, 48, 49, 50, 51, 52, 53, 54, 55, 56, 57, 58, 59, 60, 61, 62, 63, 64, 65, 66, 67, 68, 69, 70, 71, 72, 73, 74, 75, 76, 77, 78, 79, 80, 81, 82, 83, 84, 85, 86, 87, 88, 89, 90, 91, 92, 93, 94, 95, 96, 97, 98] (by decide +kernel) (by decide +kernel)
set_option maxRecDepth 20000 in
theorem gX11_askedFace_X11_beyond : GoodIn wsX11_askedFace (wsV RX11 246 RX11 yX11_beyond wsX11_beyond) := goodIn_app (goodIn_of _ (by decide +kernel)) ggX11_askedFace_X11_beyond
set_option maxRecDepth 20000 in
theorem ggX11_askedFace_X11_meets : GoodIn wsX11_askedFace wsX11_meets := goodIn_r _ [16, 17, 18, 33, 34, 35, 36, 37, 38, 39, 40, 41, 42, 43, 44, 45, 46, 47, 48, 49, 50, 51, 52, 53, 54, 55, 56, 57, 58, 59, 60, 61, 62, 63, 64, 65, 66, 67, 68, 69, 70, 71, 72, 73, 74, 75, 76, 77, 78, 79, 80, 81, 82, 83, 84, 85, 86, 87, 88, 89, 90, 91, 92, 93, 94, 95, 96, 97, 98] (by decide +kernel) (by decide +kernel)
set_option maxRecDepth 20000 in
theorem gX11_askedFace_X11_meets : GoodIn wsX11_askedFace (wsV RX11 190 RX11 yX11_meets wsX11_meets) := goodIn_app (goodIn_of _ (by decide +kernel)) ggX11_askedFace_X11_meets
theorem dX11_askedFace_0 : decode cX11_askedFace 0 = .ok (.aload_n 0, 1) := by decide +kernel
theorem dX11_askedFace_1 : decode cX11_askedFace 1 = .ok (.iload_n 1, 1) := by decide +kernel
theorem dX11_askedFace_2 : decode cX11_askedFace 2 = .ok (.invokevirtual 237, 3) := by decide +kernel
theorem dX11_askedFace_5 : decode cX11_askedFace 5 = .ok (.istore_n 3, 1) := by decide +kernel
theorem dX11_askedFace_6 : decode cX11_askedFace 6 = .ok (.iload_n 3, 1) := by decide +kernel
theorem dX11_askedFace_7 : decode cX11_askedFace 7 = .ok (.ifCond .ge 7, 3) := by decide +kernel
theorem dX11_askedFace_10 : decode cX11_askedFace 10 = .ok (.iload_n 3, 1) := by decide +kernel
theorem dX11_askedFace_11 : decode cX11_askedFace 11 = .ok (.goto 21, 3) := by decide +kernel
theorem dX11_askedFace_14 : decode cX11_askedFace 14 = .ok (.aload_n 0, 1) := by decide +kernel
theorem dX11_askedFace_15 : decode cX11_askedFace 15 = .ok (.iload_n 1, 1) := by decide +kernel
theorem dX11_askedFace_16 : decode cX11_askedFace 16 = .ok (.iload_n 2, 1) := by decide +kernel
theorem dX11_askedFace_17 : decode cX11_askedFace 17 = .ok (.invokevirtual 246, 3) := by decide +kernel
theorem dX11_askedFace_20 : decode cX11_askedFace 20 = .ok (.ifCond .lt 7, 3) := by decide +kernel
theorem dX11_askedFace_23 : decode cX11_askedFace 23 = .ok (.iconst 0, 1) := by decide +kernel
theorem dX11_askedFace_24 : decode cX11_askedFace 24 = .ok (.goto 8, 3) := by decide +kernel
theorem dX11_askedFace_27 : decode cX11_askedFace 27 = .ok (.aload_n 0, 1) := by decide +kernel
theorem dX11_askedFace_28 : decode cX11_askedFace 28 = .ok (.iconst 2, 1) := by decide +kernel
theorem dX11_askedFace_29 : decode cX11_askedFace 29 = .ok (.invokevirtual 190, 3) := by decide +kernel
theorem dX11_askedFace_32 : decode cX11_askedFace 32 = .ok (.ireturn, 1) := by decide +kernel
set_option maxRecDepth 20000 in
theorem ggX11_flow_X11_askedFace : GoodIn wsX11_flow wsX11_askedFace := goodIn_r _ [6, 7, 8, 9, 5, 10, 11, 12, 13, 14, 15, 16, 17, 18, 19, 20, 21, 22, 23, 24, 25, 26, 27, 28, 29, 30, 31, 32, 33, 34, 35, 36, 37, 43, 44, 45, 46, 47, 48, 49, 50, 51, 52, 53, 54, 55, 56, 57, 58, 59, 60, 61, 62, 63, 64, 65, 66, 67, 68, 69, 70, 71, 72, 73, 74, 75, 76, 77, 78, 79, 80, 81, 82, 83, 84, 85, 86, 87, 88, 89, 90, 91, 92, 93, 94, 95, 96, 97, 98, 99, 100, 101, 102, 103, 104, 105, 106, 107, 108] (by decide +kernel) (by decide +kernel)
set_option maxRecDepth 20000 in
theorem gX11_flow_X11_askedFace : GoodIn wsX11_flow (wsV RX11 249 RX11 yX11_askedFace wsX11_askedFace) := goodIn_app (goodIn_of _ (by decide +kernel)) ggX11_flow_X11_askedFace
set_option maxRecDepth 20000 in
theorem ggX11_flow_X11_ask : GoodIn wsX11_flow wsX11_ask := goodIn_r _ [41, 42, 43, 44, 45, 46, 47, 48, 49, 50, 51, 52, 53, 54, 55, 56, 57, 58, 59, 60, 61, 62, 63, 64, 65, 66, 67, 68, 69, 70, 71, 72, 73, 74, 75, 76, 77, 78, 79, 80, 81, 82, 83, 84, 85, 86, 87, 88, 89, 90, 91, 92, 93, 94, 95, 96, 97, 98, 99, 100, 101, 102, 103, 104, 105, 106, 107, 108] (by decide +kernel) (by decide +kernel)
set_option maxRecDepth 20000 in
theorem gX11_flow_X11_ask : GoodIn wsX11_flow (wsV RX11 202 RX11 yX11_ask wsX11_ask) := goodIn_app (goodIn_of _ (by decide +kernel)) ggX11_flow_X11_ask
theorem dX11_flow_0 : decode cX11_flow 0 = .ok (.aload_n 0, 1) := by decide +kernel
theorem dX11_flow_1 : decode cX11_flow 1 = .ok (.iload_n 1, 1) := by decide +kernel
theorem dX11_flow_2 : decode cX11_flow 2 = .ok (.iload_n 2, 1) := by decide +kernel
theorem dX11_flow_3 : decode cX11_flow 3 = .ok (.invokevirtual 249, 3) := by decide +kernel
theorem dX11_flow_6 : decode cX11_flow 6 = .ok (.istore_n 3, 1) := by decide +kernel
theorem dX11_flow_7 : decode cX11_flow 7 = .ok (.iload_n 3, 1) := by decide +kernel
theorem dX11_flow_8 : decode cX11_flow 8 = .ok (.ifCond .ge 7, 3) := by decide +kernel
theorem dX11_flow_11 : decode cX11_flow 11 = .ok (.iload_n 3, 1) := by decide +kernel
theorem dX11_flow_12 : decode cX11_flow 12 = .ok (.goto 19, 3) := by decide +kernel
theorem dX11_flow_15 : decode cX11_flow 15 = .ok (.aload_n 0, 1) := by decide +kernel
theorem dX11_flow_16 : decode cX11_flow 16 = .ok (.aload_n 0, 1) := by decide +kernel
theorem dX11_flow_17 : decode cX11_flow 17 = .ok (.getfield 98, 3) := by decide +kernel
theorem dX11_flow_20 : decode cX11_flow 20 = .ok (.bipush 96, 2) := by decide +kernel
theorem dX11_flow_22 : decode cX11_flow 22 = .ok (.iload_n 1, 1) := by decide +kernel
theorem dX11_flow_23 : decode cX11_flow 23 = .ok (.imul, 1) := by decide +kernel
theorem dX11_flow_24 : decode cX11_flow 24 = .ok (.iload_n 2, 1) := by decide +kernel
theorem dX11_flow_25 : decode cX11_flow 25 = .ok (.iadd, 1) := by decide +kernel
theorem dX11_flow_26 : decode cX11_flow 26 = .ok (.iaload, 1) := by decide +kernel
theorem dX11_flow_27 : decode cX11_flow 27 = .ok (.iconst 1, 1) := by decide +kernel
theorem dX11_flow_28 : decode cX11_flow 28 = .ok (.invokevirtual 202, 3) := by decide +kernel
theorem dX11_flow_31 : decode cX11_flow 31 = .ok (.ireturn, 1) := by decide +kernel
set_option maxRecDepth 20000 in
theorem ggX11_gate_X11_askedFace : GoodIn wsX11_gate wsX11_askedFace := goodIn_r _ [6, 7, 8, 9, 5, 10, 11, 12, 13, 14, 15, 16, 17, 18, 19, 20, 21, 22, 23, 24, 25, 26, 27, 28, 29, 30, 31, 32, 33, 34, 35, 36, 37, 38, 39, 40, 41, 42, 43, 44, 45, 46, 47, 48, 49, 50, 51, 52, 53, 54, 55, 56, 57, 58, 59, 60, 61, 62, 63, 64, 65, 66, 67, 68, 69, 70, 71, 72, 73, 74, 75, 76, 77, 78, 79, 80, 81, 82, 83, 84, 85, 86, 87, 88, 89, 90, 91, 92, 93, 94, 95, 96, 97, 98, 99, 100, 101, 102, 103] (by decide +kernel) (by decide +kernel)
set_option maxRecDepth 20000 in
theorem gX11_gate_X11_askedFace : GoodIn wsX11_gate (wsV RX11 249 RX11 yX11_askedFace wsX11_askedFace) := goodIn_app (goodIn_of _ (by decide +kernel)) ggX11_gate_X11_askedFace
theorem dX11_gate_0 : decode cX11_gate 0 = .ok (.aload_n 0, 1) := by decide +kernel
theorem dX11_gate_1 : decode cX11_gate 1 = .ok (.iload_n 1, 1) := by decide +kernel
theorem dX11_gate_2 : decode cX11_gate 2 = .ok (.iload_n 2, 1) := by decide +kernel
theorem dX11_gate_3 : decode cX11_gate 3 = .ok (.invokevirtual 249, 3) := by decide +kernel
theorem dX11_gate_6 : decode cX11_gate 6 = .ok (.istore 4, 2) := by decide +kernel
theorem dX11_gate_8 : decode cX11_gate 8 = .ok (.iload 4, 2) := by decide +kernel
theorem dX11_gate_10 : decode cX11_gate 10 = .ok (.ifCond .ge 6, 3) := by decide +kernel
theorem dX11_gate_13 : decode cX11_gate 13 = .ok (.iload 4, 2) := by decide +kernel
theorem dX11_gate_15 : decode cX11_gate 15 = .ok (.ireturn, 1) := by decide +kernel
theorem dX11_gate_16 : decode cX11_gate 16 = .ok (.aload_n 0, 1) := by decide +kernel
theorem dX11_gate_17 : decode cX11_gate 17 = .ok (.getfield 101, 3) := by decide +kernel
theorem dX11_gate_20 : decode cX11_gate 20 = .ok (.bipush 96, 2) := by decide +kernel
theorem dX11_gate_22 : decode cX11_gate 22 = .ok (.iload_n 1, 1) := by decide +kernel
theorem dX11_gate_23 : decode cX11_gate 23 = .ok (.imul, 1) := by decide +kernel
theorem dX11_gate_24 : decode cX11_gate 24 = .ok (.iload_n 2, 1) := by decide +kernel
theorem dX11_gate_25 : decode cX11_gate 25 = .ok (.iadd, 1) := by decide +kernel
theorem dX11_gate_26 : decode cX11_gate 26 = .ok (.baload, 1) := by decide +kernel
theorem dX11_gate_27 : decode cX11_gate 27 = .ok (.ifCond .eq 7, 3) := by decide +kernel
theorem dX11_gate_30 : decode cX11_gate 30 = .ok (.iconst 1, 1) := by decide +kernel
theorem dX11_gate_31 : decode cX11_gate 31 = .ok (.goto 4, 3) := by decide +kernel
theorem dX11_gate_34 : decode cX11_gate 34 = .ok (.iconst 0, 1) := by decide +kernel
theorem dX11_gate_35 : decode cX11_gate 35 = .ok (.istore 5, 2) := by decide +kernel
theorem dX11_gate_37 : decode cX11_gate 37 = .ok (.aload_n 0, 1) := by decide +kernel
theorem dX11_gate_38 : decode cX11_gate 38 = .ok (.getfield 101, 3) := by decide +kernel
theorem dX11_gate_41 : decode cX11_gate 41 = .ok (.bipush 96, 2) := by decide +kernel
theorem dX11_gate_43 : decode cX11_gate 43 = .ok (.iload_n 1, 1) := by decide +kernel
theorem dX11_gate_44 : decode cX11_gate 44 = .ok (.imul, 1) := by decide +kernel
theorem dX11_gate_45 : decode cX11_gate 45 = .ok (.iload_n 2, 1) := by decide +kernel
theorem dX11_gate_46 : decode cX11_gate 46 = .ok (.iadd, 1) := by decide +kernel
theorem dX11_gate_47 : decode cX11_gate 47 = .ok (.iload_n 3, 1) := by decide +kernel
theorem dX11_gate_48 : decode cX11_gate 48 = .ok (.bastore, 1) := by decide +kernel
theorem dX11_gate_49 : decode cX11_gate 49 = .ok (.iload 5, 2) := by decide +kernel
theorem dX11_gate_51 : decode cX11_gate 51 = .ok (.ireturn, 1) := by decide +kernel
set_option maxRecDepth 20000 in
theorem ggX11_law_X11_in : GoodIn wsX11_law wsX11_in := goodIn_r _ [6] (by decide +kernel) (by decide +kernel)
set_option maxRecDepth 20000 in
theorem gX11_law_X11_in : GoodIn wsX11_law (va_wsS RX11 182 yX11_in wsX11_in) := goodIn_app (goodIn_of _ (by decide +kernel)) ggX11_law_X11_in
set_option maxRecDepth 20000 in
theorem ggX11_law_X11_askedFor : GoodIn wsX11_law wsX11_askedFor := goodIn_r _ [10, 11, 12, 13, 5, 14, 3, 4, 6, 15, 16, 17, 18, 19, 20, 21, 22, 23, 24, 25, 26, 27, 28, 29, 30, 31, 32, 33, 34, 35, 36, 37, 38, 39, 40, 41, 42, 43, 44, 45, 46, 47, 48, 49, 50, 51, 52, 53, 54, 55, 56, 57, 58, 59, 60, 61, 62, 63, 64, 65, 66, 67, 68, 69, 70, 71, 72, 73, 74, 75, 76, 77, 78, 79, 80, 81, 82, 83, 84, 85, 86] (by decide +kernel) (by decide +kernel)
set_option maxRecDepth 20000 in
theorem gX11_law_X11_askedFor : GoodIn wsX11_law (wsV RX11 237 RX11 yX11_askedFor wsX11_askedFor) := goodIn_app (goodIn_of _ (by decide +kernel)) ggX11_law_X11_askedFor
theorem dX11_law_0 : decode cX11_law 0 = .ok (.iload_n 2, 1) := by decide +kernel
theorem dX11_law_1 : decode cX11_law 1 = .ok (.iconst 1, 1) := by decide +kernel
theorem dX11_law_2 : decode cX11_law 2 = .ok (.bipush 8, 2) := by decide +kernel
theorem dX11_law_4 : decode cX11_law 4 = .ok (.invokestatic 182, 3) := by decide +kernel
theorem dX11_law_7 : decode cX11_law 7 = .ok (.ifCond .eq 14, 3) := by decide +kernel
theorem dX11_law_10 : decode cX11_law 10 = .ok (.iload_n 3, 1) := by decide +kernel
theorem dX11_law_11 : decode cX11_law 11 = .ok (.iconst 2, 1) := by decide +kernel
theorem dX11_law_12 : decode cX11_law 12 = .ok (.sipush 1000, 3) := by decide +kernel
theorem dX11_law_15 : decode cX11_law 15 = .ok (.invokestatic 182, 3) := by decide +kernel
theorem dX11_law_18 : decode cX11_law 18 = .ok (.ifCond .ne 5, 3) := by decide +kernel
theorem dX11_law_21 : decode cX11_law 21 = .ok (.iconst (-1), 1) := by decide +kernel
theorem dX11_law_22 : decode cX11_law 22 = .ok (.ireturn, 1) := by decide +kernel
theorem dX11_law_23 : decode cX11_law 23 = .ok (.aload_n 0, 1) := by decide +kernel
theorem dX11_law_24 : decode cX11_law 24 = .ok (.iload_n 1, 1) := by decide +kernel
theorem dX11_law_25 : decode cX11_law 25 = .ok (.invokevirtual 237, 3) := by decide +kernel
theorem dX11_law_28 : decode cX11_law 28 = .ok (.istore 4, 2) := by decide +kernel
theorem dX11_law_30 : decode cX11_law 30 = .ok (.iload 4, 2) := by decide +kernel
theorem dX11_law_32 : decode cX11_law 32 = .ok (.ifCond .ge 6, 3) := by decide +kernel
theorem dX11_law_35 : decode cX11_law 35 = .ok (.iload 4, 2) := by decide +kernel
theorem dX11_law_37 : decode cX11_law 37 = .ok (.ireturn, 1) := by decide +kernel
theorem dX11_law_38 : decode cX11_law 38 = .ok (.aload_n 0, 1) := by decide +kernel
theorem dX11_law_39 : decode cX11_law 39 = .ok (.getfield 47, 3) := by decide +kernel
theorem dX11_law_42 : decode cX11_law 42 = .ok (.iload_n 1, 1) := by decide +kernel
theorem dX11_law_43 : decode cX11_law 43 = .ok (.iload_n 2, 1) := by decide +kernel
theorem dX11_law_44 : decode cX11_law 44 = .ok (.iastore, 1) := by decide +kernel
theorem dX11_law_45 : decode cX11_law 45 = .ok (.aload_n 0, 1) := by decide +kernel
theorem dX11_law_46 : decode cX11_law 46 = .ok (.getfield 50, 3) := by decide +kernel
theorem dX11_law_49 : decode cX11_law 49 = .ok (.iload_n 1, 1) := by decide +kernel
theorem dX11_law_50 : decode cX11_law 50 = .ok (.iload_n 3, 1) := by decide +kernel
theorem dX11_law_51 : decode cX11_law 51 = .ok (.iastore, 1) := by decide +kernel
theorem dX11_law_52 : decode cX11_law 52 = .ok (.iconst 1, 1) := by decide +kernel
theorem dX11_law_53 : decode cX11_law 53 = .ok (.ireturn, 1) := by decide +kernel
set_option maxRecDepth 20000 in
theorem ggX11_wind_X11_in : GoodIn wsX11_wind wsX11_in := goodIn_r _ [6] (by decide +kernel) (by decide +kernel)
set_option maxRecDepth 20000 in
theorem gX11_wind_X11_in : GoodIn wsX11_wind (va_wsS RX11 182 yX11_in wsX11_in) := goodIn_app (goodIn_of _ (by decide +kernel)) ggX11_wind_X11_in
set_option maxRecDepth 20000 in
theorem ggX11_wind_X11_askedFor : GoodIn wsX11_wind wsX11_askedFor := goodIn_r _ [10, 11, 12, 13, 5, 14, 3, 4, 6, 15, 16, 17, 18, 19, 20, 21, 22, 23, 24, 25, 26, 27, 28, 29, 30, 31, 32, 33, 34, 35, 36, 37, 38, 39, 40, 41, 42, 43, 44, 45, 46, 47, 48, 49, 50, 51, 52, 53, 54, 55, 56, 57, 58, 59, 60, 61, 62, 63, 64, 65, 66, 67, 68, 69, 70, 71, 72, 73, 74, 75, 76, 77, 78, 79, 80, 81, 82, 83, 84, 85, 86] (by decide +kernel) (by decide +kernel)
set_option maxRecDepth 20000 in
theorem gX11_wind_X11_askedFor : GoodIn wsX11_wind (wsV RX11 237 RX11 yX11_askedFor wsX11_askedFor) := goodIn_app (goodIn_of _ (by decide +kernel)) ggX11_wind_X11_askedFor
theorem dX11_wind_0 : decode cX11_wind 0 = .ok (.iload_n 2, 1) := by decide +kernel
theorem dX11_wind_1 : decode cX11_wind 1 = .ok (.bipush (-50), 2) := by decide +kernel
theorem dX11_wind_3 : decode cX11_wind 3 = .ok (.bipush 50, 2) := by decide +kernel
theorem dX11_wind_5 : decode cX11_wind 5 = .ok (.invokestatic 182, 3) := by decide +kernel
theorem dX11_wind_8 : decode cX11_wind 8 = .ok (.ifCond .eq 14, 3) := by decide +kernel
theorem dX11_wind_11 : decode cX11_wind 11 = .ok (.iload_n 3, 1) := by decide +kernel
theorem dX11_wind_12 : decode cX11_wind 12 = .ok (.bipush (-50), 2) := by decide +kernel
theorem dX11_wind_14 : decode cX11_wind 14 = .ok (.bipush 50, 2) := by decide +kernel
theorem dX11_wind_16 : decode cX11_wind 16 = .ok (.invokestatic 182, 3) := by decide +kernel
theorem dX11_wind_19 : decode cX11_wind 19 = .ok (.ifCond .ne 5, 3) := by decide +kernel
theorem dX11_wind_22 : decode cX11_wind 22 = .ok (.iconst (-1), 1) := by decide +kernel
theorem dX11_wind_23 : decode cX11_wind 23 = .ok (.ireturn, 1) := by decide +kernel
theorem dX11_wind_24 : decode cX11_wind 24 = .ok (.aload_n 0, 1) := by decide +kernel
theorem dX11_wind_25 : decode cX11_wind 25 = .ok (.iload_n 1, 1) := by decide +kernel
theorem dX11_wind_26 : decode cX11_wind 26 = .ok (.invokevirtual 237, 3) := by decide +kernel
theorem dX11_wind_29 : decode cX11_wind 29 = .ok (.istore 4, 2) := by decide +kernel
theorem dX11_wind_31 : decode cX11_wind 31 = .ok (.iload 4, 2) := by decide +kernel
theorem dX11_wind_33 : decode cX11_wind 33 = .ok (.ifCond .ge 6, 3) := by decide +kernel
theorem dX11_wind_36 : decode cX11_wind 36 = .ok (.iload 4, 2) := by decide +kernel
theorem dX11_wind_38 : decode cX11_wind 38 = .ok (.ireturn, 1) := by decide +kernel
theorem dX11_wind_39 : decode cX11_wind 39 = .ok (.aload_n 0, 1) := by decide +kernel
theorem dX11_wind_40 : decode cX11_wind 40 = .ok (.getfield 53, 3) := by decide +kernel
theorem dX11_wind_43 : decode cX11_wind 43 = .ok (.iload_n 1, 1) := by decide +kernel
theorem dX11_wind_44 : decode cX11_wind 44 = .ok (.iload_n 2, 1) := by decide +kernel
theorem dX11_wind_45 : decode cX11_wind 45 = .ok (.iastore, 1) := by decide +kernel
theorem dX11_wind_46 : decode cX11_wind 46 = .ok (.aload_n 0, 1) := by decide +kernel
theorem dX11_wind_47 : decode cX11_wind 47 = .ok (.getfield 56, 3) := by decide +kernel
theorem dX11_wind_50 : decode cX11_wind 50 = .ok (.iload_n 1, 1) := by decide +kernel
theorem dX11_wind_51 : decode cX11_wind 51 = .ok (.iload_n 3, 1) := by decide +kernel
theorem dX11_wind_52 : decode cX11_wind 52 = .ok (.iastore, 1) := by decide +kernel
theorem dX11_wind_53 : decode cX11_wind 53 = .ok (.iconst 1, 1) := by decide +kernel
theorem dX11_wind_54 : decode cX11_wind 54 = .ok (.ireturn, 1) := by decide +kernel
set_option maxRecDepth 20000 in
theorem ggX11_river_X11_in : GoodIn wsX11_river wsX11_in := goodIn_r _ [7] (by decide +kernel) (by decide +kernel)
set_option maxRecDepth 20000 in
theorem gX11_river_X11_in : GoodIn wsX11_river (va_wsS RX11 182 yX11_in wsX11_in) := goodIn_app (goodIn_of _ (by decide +kernel)) ggX11_river_X11_in
set_option maxRecDepth 20000 in
theorem ggX11_river_X11_askedFor : GoodIn wsX11_river wsX11_askedFor := goodIn_r _ [11, 12, 13, 14, 6, 15, 4, 5, 7, 16, 17, 18, 19, 20, 21, 32, 33, 34, 35, 36, 37, 38, 39, 40, 41, 42, 43, 44, 45, 46, 47, 48, 49, 50, 51, 52, 53, 54, 55, 56, 57, 58, 59, 60, 61, 62, 63, 64, 65, 66, 67, 68, 69, 70, 71, 72, 73, 74, 75, 76, 77, 78, 79, 80, 81, 82, 83, 84, 85, 86, 87, 88, 89, 90, 91, 92, 93, 94, 95, 96, 97] (by decide +kernel) (by decide +kernel)
set_option maxRecDepth 20000 in
theorem gX11_river_X11_askedFor : GoodIn wsX11_river (wsV RX11 237 RX11 yX11_askedFor wsX11_askedFor) := goodIn_app (goodIn_of _ (by decide +kernel)) ggX11_river_X11_askedFor
set_option maxRecDepth 20000 in
theorem ggX11_river_X11_isCell : GoodIn wsX11_river wsX11_isCell := goodIn_r _ [25, 26, 27, 28, 6, 29, 30, 31, 4, 5, 7, 32, 33, 34, 35, 36, 37, 38, 39, 40, 41, 42, 43, 44, 45, 46, 47, 48, 49, 50, 51, 52, 53, 54, 55, 56, 57, 58, 59, 60, 61, 62, 63, 64, 65, 66, 67, 68, 69, 70, 71, 72, 73, 74, 75, 76, 77, 78, 79, 80, 81, 82, 83, 84, 85, 86, 87, 88, 89, 90, 91, 92, 93, 94, 95, 96, 97] (by decide +kernel) (by decide +kernel)
set_option maxRecDepth 20000 in
theorem gX11_river_X11_isCell : GoodIn wsX11_river (wsV RX11 226 RX11 yX11_isCell wsX11_isCell) := goodIn_app (goodIn_of _ (by decide +kernel)) ggX11_river_X11_isCell
set_option maxRecDepth 20000 in
theorem ggX11_river_X11_meets : GoodIn wsX11_river wsX11_meets := goodIn_r _ [19, 20, 21, 32, 33, 34, 35, 36, 37, 38, 39, 40, 41, 42, 43, 44, 45, 46, 47, 48, 49, 50, 51, 52, 53, 54, 55, 56, 57, 58, 59, 60, 61, 62, 63, 64, 65, 66, 67, 68, 69, 70, 71, 72, 73, 74, 75, 76, 77, 78, 79, 80, 81, 82, 83, 84, 85, 86, 87, 88, 89, 90, 91, 92, 93, 94, 95, 96, 97] (by decide +kernel) (by decide +kernel)
set_option maxRecDepth 20000 in
theorem gX11_river_X11_meets : GoodIn wsX11_river (wsV RX11 190 RX11 yX11_meets wsX11_meets) := goodIn_app (goodIn_of _ (by decide +kernel)) ggX11_river_X11_meets
theorem dX11_river_0 : decode cX11_river 0 = .ok (.iload_n 3, 1) := by decide +kernel
theorem dX11_river_1 : decode cX11_river 1 = .ok (.iconst 0, 1) := by decide +kernel
theorem dX11_river_2 : decode cX11_river 2 = .ok (.sipush 1000, 3) := by decide +kernel
theorem dX11_river_5 : decode cX11_river 5 = .ok (.invokestatic 182, 3) := by decide +kernel
theorem dX11_river_8 : decode cX11_river 8 = .ok (.ifCond .ne 5, 3) := by decide +kernel
theorem dX11_river_11 : decode cX11_river 11 = .ok (.iconst (-1), 1) := by decide +kernel
theorem dX11_river_12 : decode cX11_river 12 = .ok (.ireturn, 1) := by decide +kernel
theorem dX11_river_13 : decode cX11_river 13 = .ok (.aload_n 0, 1) := by decide +kernel
theorem dX11_river_14 : decode cX11_river 14 = .ok (.iload_n 1, 1) := by decide +kernel
theorem dX11_river_15 : decode cX11_river 15 = .ok (.invokevirtual 237, 3) := by decide +kernel
theorem dX11_river_18 : decode cX11_river 18 = .ok (.istore 4, 2) := by decide +kernel
theorem dX11_river_20 : decode cX11_river 20 = .ok (.iload 4, 2) := by decide +kernel
theorem dX11_river_22 : decode cX11_river 22 = .ok (.ifCond .ge 6, 3) := by decide +kernel
theorem dX11_river_25 : decode cX11_river 25 = .ok (.iload 4, 2) := by decide +kernel
theorem dX11_river_27 : decode cX11_river 27 = .ok (.ireturn, 1) := by decide +kernel
theorem dX11_river_28 : decode cX11_river 28 = .ok (.aload_n 0, 1) := by decide +kernel
theorem dX11_river_29 : decode cX11_river 29 = .ok (.getfield 74, 3) := by decide +kernel
theorem dX11_river_32 : decode cX11_river 32 = .ok (.iload_n 1, 1) := by decide +kernel
theorem dX11_river_33 : decode cX11_river 33 = .ok (.iaload, 1) := by decide +kernel
theorem dX11_river_34 : decode cX11_river 34 = .ok (.iconst 4, 1) := by decide +kernel
theorem dX11_river_35 : decode cX11_river 35 = .ok (.if_icmp .ne 6, 3) := by decide +kernel
theorem dX11_river_38 : decode cX11_river 38 = .ok (.bipush (-2), 2) := by decide +kernel
theorem dX11_river_40 : decode cX11_river 40 = .ok (.ireturn, 1) := by decide +kernel
theorem dX11_river_41 : decode cX11_river 41 = .ok (.aload_n 0, 1) := by decide +kernel
theorem dX11_river_42 : decode cX11_river 42 = .ok (.iload_n 1, 1) := by decide +kernel
theorem dX11_river_43 : decode cX11_river 43 = .ok (.iload_n 2, 1) := by decide +kernel
theorem dX11_river_44 : decode cX11_river 44 = .ok (.invokevirtual 226, 3) := by decide +kernel
theorem dX11_river_47 : decode cX11_river 47 = .ok (.ifCond .ne 9, 3) := by decide +kernel
theorem dX11_river_50 : decode cX11_river 50 = .ok (.aload_n 0, 1) := by decide +kernel
theorem dX11_river_51 : decode cX11_river 51 = .ok (.iconst 2, 1) := by decide +kernel
theorem dX11_river_52 : decode cX11_river 52 = .ok (.invokevirtual 190, 3) := by decide +kernel
theorem dX11_river_55 : decode cX11_river 55 = .ok (.ireturn, 1) := by decide +kernel
theorem dX11_river_56 : decode cX11_river 56 = .ok (.aload_n 0, 1) := by decide +kernel
theorem dX11_river_57 : decode cX11_river 57 = .ok (.getfield 77, 3) := by decide +kernel
theorem dX11_river_60 : decode cX11_river 60 = .ok (.iconst 4, 1) := by decide +kernel
theorem dX11_river_61 : decode cX11_river 61 = .ok (.iload_n 1, 1) := by decide +kernel
theorem dX11_river_62 : decode cX11_river 62 = .ok (.imul, 1) := by decide +kernel
theorem dX11_river_63 : decode cX11_river 63 = .ok (.aload_n 0, 1) := by decide +kernel
theorem dX11_river_64 : decode cX11_river 64 = .ok (.getfield 74, 3) := by decide +kernel
theorem dX11_river_67 : decode cX11_river 67 = .ok (.iload_n 1, 1) := by decide +kernel
theorem dX11_river_68 : decode cX11_river 68 = .ok (.iaload, 1) := by decide +kernel
theorem dX11_river_69 : decode cX11_river 69 = .ok (.iadd, 1) := by decide +kernel
theorem dX11_river_70 : decode cX11_river 70 = .ok (.iload_n 2, 1) := by decide +kernel
theorem dX11_river_71 : decode cX11_river 71 = .ok (.iastore, 1) := by decide +kernel
theorem dX11_river_72 : decode cX11_river 72 = .ok (.aload_n 0, 1) := by decide +kernel
theorem dX11_river_73 : decode cX11_river 73 = .ok (.getfield 80, 3) := by decide +kernel
theorem dX11_river_76 : decode cX11_river 76 = .ok (.iconst 4, 1) := by decide +kernel
theorem dX11_river_77 : decode cX11_river 77 = .ok (.iload_n 1, 1) := by decide +kernel
theorem dX11_river_78 : decode cX11_river 78 = .ok (.imul, 1) := by decide +kernel
theorem dX11_river_79 : decode cX11_river 79 = .ok (.aload_n 0, 1) := by decide +kernel
theorem dX11_river_80 : decode cX11_river 80 = .ok (.getfield 74, 3) := by decide +kernel
theorem dX11_river_83 : decode cX11_river 83 = .ok (.iload_n 1, 1) := by decide +kernel
theorem dX11_river_84 : decode cX11_river 84 = .ok (.iaload, 1) := by decide +kernel
theorem dX11_river_85 : decode cX11_river 85 = .ok (.iadd, 1) := by decide +kernel
theorem dX11_river_86 : decode cX11_river 86 = .ok (.iload_n 3, 1) := by decide +kernel
theorem dX11_river_87 : decode cX11_river 87 = .ok (.iastore, 1) := by decide +kernel
theorem dX11_river_88 : decode cX11_river 88 = .ok (.aload_n 0, 1) := by decide +kernel
theorem dX11_river_89 : decode cX11_river 89 = .ok (.getfield 74, 3) := by decide +kernel
theorem dX11_river_92 : decode cX11_river 92 = .ok (.iload_n 1, 1) := by decide +kernel
theorem dX11_river_93 : decode cX11_river 93 = .ok (.dup2, 1) := by decide +kernel
theorem dX11_river_94 : decode cX11_river 94 = .ok (.iaload, 1) := by decide +kernel
theorem dX11_river_95 : decode cX11_river 95 = .ok (.iconst 1, 1) := by decide +kernel
theorem dX11_river_96 : decode cX11_river 96 = .ok (.iadd, 1) := by decide +kernel
theorem dX11_river_97 : decode cX11_river 97 = .ok (.iastore, 1) := by decide +kernel
theorem dX11_river_98 : decode cX11_river 98 = .ok (.aload_n 0, 1) := by decide +kernel
theorem dX11_river_99 : decode cX11_river 99 = .ok (.getfield 74, 3) := by decide +kernel
theorem dX11_river_102 : decode cX11_river 102 = .ok (.iload_n 1, 1) := by decide +kernel
theorem dX11_river_103 : decode cX11_river 103 = .ok (.iaload, 1) := by decide +kernel
theorem dX11_river_104 : decode cX11_river 104 = .ok (.ireturn, 1) := by decide +kernel
theorem dX11_isTidal_0 : decode cX11_isTidal 0 = .ok (.aload_n 0, 1) := by decide +kernel
theorem dX11_isTidal_1 : decode cX11_isTidal 1 = .ok (.getfield 38, 3) := by decide +kernel
theorem dX11_isTidal_4 : decode cX11_isTidal 4 = .ok (.iload_n 1, 1) := by decide +kernel
theorem dX11_isTidal_5 : decode cX11_isTidal 5 = .ok (.iaload, 1) := by decide +kernel
theorem dX11_isTidal_6 : decode cX11_isTidal 6 = .ok (.iconst 1, 1) := by decide +kernel
theorem dX11_isTidal_7 : decode cX11_isTidal 7 = .ok (.if_icmp .eq 13, 3) := by decide +kernel
theorem dX11_isTidal_10 : decode cX11_isTidal 10 = .ok (.aload_n 0, 1) := by decide +kernel
theorem dX11_isTidal_11 : decode cX11_isTidal 11 = .ok (.getfield 38, 3) := by decide +kernel
theorem dX11_isTidal_14 : decode cX11_isTidal 14 = .ok (.iload_n 1, 1) := by decide +kernel
theorem dX11_isTidal_15 : decode cX11_isTidal 15 = .ok (.iaload, 1) := by decide +kernel
theorem dX11_isTidal_16 : decode cX11_isTidal 16 = .ok (.iconst 3, 1) := by decide +kernel
theorem dX11_isTidal_17 : decode cX11_isTidal 17 = .ok (.if_icmp .ne 7, 3) := by decide +kernel
theorem dX11_isTidal_20 : decode cX11_isTidal 20 = .ok (.iconst 1, 1) := by decide +kernel
theorem dX11_isTidal_21 : decode cX11_isTidal 21 = .ok (.goto 4, 3) := by decide +kernel
theorem dX11_isTidal_24 : decode cX11_isTidal 24 = .ok (.iconst 0, 1) := by decide +kernel
theorem dX11_isTidal_25 : decode cX11_isTidal 25 = .ok (.ireturn, 1) := by decide +kernel
set_option maxRecDepth 20000 in
theorem ggX11_tide_X11_isSix : GoodIn wsX11_tide wsX11_isSix := goodIn_r _ [6, 7, 8, 5, 9] (by decide +kernel) (by decide +kernel)
set_option maxRecDepth 20000 in
theorem gX11_tide_X11_isSix : GoodIn wsX11_tide (va_wsS RX11 186 yX11_isSix wsX11_isSix) := goodIn_app (goodIn_of _ (by decide +kernel)) ggX11_tide_X11_isSix
set_option maxRecDepth 20000 in
theorem ggX11_tide_X11_in : GoodIn wsX11_tide wsX11_in := goodIn_r _ [9] (by decide +kernel) (by decide +kernel)
set_option maxRecDepth 20000 in
theorem gX11_tide_X11_in : GoodIn wsX11_tide (va_wsS RX11 182 yX11_in wsX11_in) := goodIn_app (goodIn_of _ (by decide +kernel)) ggX11_tide_X11_in
set_option maxRecDepth 20000 in
theorem ggX11_tide_X11_askedFor : GoodIn wsX11_tide wsX11_askedFor := goodIn_r _ [13, 14, 3, 4, 5, 6, 7, 8, 9, 15, 16, 17, 18, 19, 20, 25, 26, 27, 28, 29, 30, 31, 32, 33, 34, 35, 36, 37, 38, 39, 40, 41, 42, 43, 44, 45, 46, 47, 48, 49, 50, 51, 52, 53, 54, 55, 56, 57, 58, 59, 60, 61, 62, 63, 64, 65, 66, 67, 68, 69, 70, 71, 72, 73, 74, 75, 76, 77, 78, 79, 80, 81, 82, 83, 84, 85, 86, 87, 88, 89, 90] (by decide +kernel) (by decide +kernel)
set_option maxRecDepth 20000 in
theorem gX11_tide_X11_askedFor : GoodIn wsX11_tide (wsV RX11 237 RX11 yX11_askedFor wsX11_askedFor) := goodIn_app (goodIn_of _ (by decide +kernel)) ggX11_tide_X11_askedFor
set_option maxRecDepth 20000 in
theorem ggX11_tide_X11_isTidal : GoodIn wsX11_tide wsX11_isTidal := goodIn_r _ [24, 14, 25, 26, 27, 28, 29, 30, 31, 32, 33, 34, 35, 36, 37, 38, 39, 40, 41, 42, 43, 44, 45, 46, 47, 48, 49, 50, 51, 52, 53, 54, 55, 56, 57, 58, 59, 60, 61, 62, 63, 64, 65, 66, 67, 68, 69, 70, 71, 72, 73, 74, 75, 76, 77, 78, 79, 80, 81, 82, 83, 84, 85, 86, 87, 88, 89, 90] (by decide +kernel) (by decide +kernel)
set_option maxRecDepth 20000 in
theorem gX11_tide_X11_isTidal : GoodIn wsX11_tide (wsV RX11 252 RX11 yX11_isTidal wsX11_isTidal) := goodIn_app (goodIn_of _ (by decide +kernel)) ggX11_tide_X11_isTidal
set_option maxRecDepth 20000 in
theorem ggX11_tide_X11_meets : GoodIn wsX11_tide wsX11_meets := goodIn_r _ [18, 19, 20, 25, 26, 27, 28, 29, 30, 31, 32, 33, 34, 35, 36, 37, 38, 39, 40, 41, 42, 43, 44, 45, 46, 47, 48, 49, 50, 51, 52, 53, 54, 55, 56, 57, 58, 59, 60, 61, 62, 63, 64, 65, 66, 67, 68, 69, 70, 71, 72, 73, 74, 75, 76, 77, 78, 79, 80, 81, 82, 83, 84, 85, 86, 87, 88, 89, 90] (by decide +kernel) (by decide +kernel)
set_option maxRecDepth 20000 in
theorem gX11_tide_X11_meets : GoodIn wsX11_tide (wsV RX11 190 RX11 yX11_meets wsX11_meets) := goodIn_app (goodIn_of _ (by decide +kernel)) ggX11_tide_X11_meets
theorem dX11_tide_0 : decode cX11_tide 0 = .ok (.iload_n 2, 1) := by decide +kernel
theorem dX11_tide_1 : decode cX11_tide 1 = .ok (.invokestatic 186, 3) := by decide +kernel
theorem dX11_tide_4 : decode cX11_tide 4 = .ok (.ifCond .eq 16, 3) := by decide +kernel
theorem dX11_tide_7 : decode cX11_tide 7 = .ok (.iload_n 3, 1) := by decide +kernel
theorem dX11_tide_8 : decode cX11_tide 8 = .ok (.sipush (-500), 3) := by decide +kernel
theorem dX11_tide_11 : decode cX11_tide 11 = .ok (.sipush 500, 3) := by decide +kernel
theorem dX11_tide_14 : decode cX11_tide 14 = .ok (.invokestatic 182, 3) := by decide +kernel
theorem dX11_tide_17 : decode cX11_tide 17 = .ok (.ifCond .ne 5, 3) := by decide +kernel
theorem dX11_tide_20 : decode cX11_tide 20 = .ok (.iconst (-1), 1) := by decide +kernel
theorem dX11_tide_21 : decode cX11_tide 21 = .ok (.ireturn, 1) := by decide +kernel
theorem dX11_tide_22 : decode cX11_tide 22 = .ok (.aload_n 0, 1) := by decide +kernel
theorem dX11_tide_23 : decode cX11_tide 23 = .ok (.iload_n 1, 1) := by decide +kernel
theorem dX11_tide_24 : decode cX11_tide 24 = .ok (.invokevirtual 237, 3) := by decide +kernel
theorem dX11_tide_27 : decode cX11_tide 27 = .ok (.istore 4, 2) := by decide +kernel
theorem dX11_tide_29 : decode cX11_tide 29 = .ok (.iload 4, 2) := by decide +kernel
theorem dX11_tide_31 : decode cX11_tide 31 = .ok (.ifCond .ge 6, 3) := by decide +kernel
theorem dX11_tide_34 : decode cX11_tide 34 = .ok (.iload 4, 2) := by decide +kernel
theorem dX11_tide_36 : decode cX11_tide 36 = .ok (.ireturn, 1) := by decide +kernel
theorem dX11_tide_37 : decode cX11_tide 37 = .ok (.aload_n 0, 1) := by decide +kernel
theorem dX11_tide_38 : decode cX11_tide 38 = .ok (.iload_n 1, 1) := by decide +kernel
theorem dX11_tide_39 : decode cX11_tide 39 = .ok (.invokevirtual 252, 3) := by decide +kernel
theorem dX11_tide_42 : decode cX11_tide 42 = .ok (.ifCond .ne 9, 3) := by decide +kernel
theorem dX11_tide_45 : decode cX11_tide 45 = .ok (.aload_n 0, 1) := by decide +kernel
theorem dX11_tide_46 : decode cX11_tide 46 = .ok (.iconst 3, 1) := by decide +kernel
theorem dX11_tide_47 : decode cX11_tide 47 = .ok (.invokevirtual 190, 3) := by decide +kernel
theorem dX11_tide_50 : decode cX11_tide 50 = .ok (.ireturn, 1) := by decide +kernel
theorem dX11_tide_51 : decode cX11_tide 51 = .ok (.aload_n 0, 1) := by decide +kernel
theorem dX11_tide_52 : decode cX11_tide 52 = .ok (.getfield 68, 3) := by decide +kernel
theorem dX11_tide_55 : decode cX11_tide 55 = .ok (.iload_n 1, 1) := by decide +kernel
theorem dX11_tide_56 : decode cX11_tide 56 = .ok (.iload_n 2, 1) := by decide +kernel
theorem dX11_tide_57 : decode cX11_tide 57 = .ok (.iastore, 1) := by decide +kernel
theorem dX11_tide_58 : decode cX11_tide 58 = .ok (.aload_n 0, 1) := by decide +kernel
theorem dX11_tide_59 : decode cX11_tide 59 = .ok (.getfield 71, 3) := by decide +kernel
theorem dX11_tide_62 : decode cX11_tide 62 = .ok (.iload_n 1, 1) := by decide +kernel
theorem dX11_tide_63 : decode cX11_tide 63 = .ok (.iload_n 3, 1) := by decide +kernel
theorem dX11_tide_64 : decode cX11_tide 64 = .ok (.iastore, 1) := by decide +kernel
theorem dX11_tide_65 : decode cX11_tide 65 = .ok (.iconst 1, 1) := by decide +kernel
theorem dX11_tide_66 : decode cX11_tide 66 = .ok (.ireturn, 1) := by decide +kernel
set_option maxRecDepth 20000 in
theorem ggX11_pushed_X11_level : GoodIn wsX11_pushed wsX11_level := goodIn_r _ [14, 9, 8, 15, 16, 17, 18, 19, 20, 21, 22, 23, 24, 25, 26, 27, 28, 29, 30, 31, 32, 33, 34, 35, 36, 37, 38, 39, 40, 41, 42, 43, 44, 45, 46, 47, 48, 49, 50, 51, 52, 53, 54, 55, 56, 57, 58, 59, 60, 61, 62, 63, 64, 65, 66, 67, 68, 69, 70, 71, 72, 73, 74, 75, 76, 77, 78, 79, 80] (by decide +kernel) (by decide +kernel)
set_option maxRecDepth 20000 in
theorem gX11_pushed_X11_level : GoodIn wsX11_pushed (wsV RX11 243 RX11 yX11_level wsX11_level) := goodIn_app (goodIn_of _ (by decide +kernel)) ggX11_pushed_X11_level
theorem dX11_pushed_0 : decode cX11_pushed 0 = .ok (.aload_n 0, 1) := by decide +kernel
theorem dX11_pushed_1 : decode cX11_pushed 1 = .ok (.getfield 101, 3) := by decide +kernel
theorem dX11_pushed_4 : decode cX11_pushed 4 = .ok (.bipush 96, 2) := by decide +kernel
theorem dX11_pushed_6 : decode cX11_pushed 6 = .ok (.iload_n 1, 1) := by decide +kernel
theorem dX11_pushed_7 : decode cX11_pushed 7 = .ok (.imul, 1) := by decide +kernel
theorem dX11_pushed_8 : decode cX11_pushed 8 = .ok (.iload_n 2, 1) := by decide +kernel
theorem dX11_pushed_9 : decode cX11_pushed 9 = .ok (.iadd, 1) := by decide +kernel
theorem dX11_pushed_10 : decode cX11_pushed 10 = .ok (.baload, 1) := by decide +kernel
theorem dX11_pushed_11 : decode cX11_pushed 11 = .ok (.ifCond .eq 5, 3) := by decide +kernel
theorem dX11_pushed_14 : decode cX11_pushed 14 = .ok (.iconst 0, 1) := by decide +kernel
theorem dX11_pushed_15 : decode cX11_pushed 15 = .ok (.ireturn, 1) := by decide +kernel
theorem dX11_pushed_16 : decode cX11_pushed 16 = .ok (.iload_n 2, 1) := by decide +kernel
theorem dX11_pushed_17 : decode cX11_pushed 17 = .ok (.iconst 2, 1) := by decide +kernel
theorem dX11_pushed_18 : decode cX11_pushed 18 = .ok (.idiv, 1) := by decide +kernel
theorem dX11_pushed_19 : decode cX11_pushed 19 = .ok (.istore 4, 2) := by decide +kernel
theorem dX11_pushed_21 : decode cX11_pushed 21 = .ok (.aload_n 0, 1) := by decide +kernel
theorem dX11_pushed_22 : decode cX11_pushed 22 = .ok (.getfield 98, 3) := by decide +kernel
theorem dX11_pushed_25 : decode cX11_pushed 25 = .ok (.bipush 96, 2) := by decide +kernel
theorem dX11_pushed_27 : decode cX11_pushed 27 = .ok (.iload_n 1, 1) := by decide +kernel
theorem dX11_pushed_28 : decode cX11_pushed 28 = .ok (.imul, 1) := by decide +kernel
theorem dX11_pushed_29 : decode cX11_pushed 29 = .ok (.iload_n 2, 1) := by decide +kernel
theorem dX11_pushed_30 : decode cX11_pushed 30 = .ok (.iadd, 1) := by decide +kernel
theorem dX11_pushed_31 : decode cX11_pushed 31 = .ok (.iaload, 1) := by decide +kernel
theorem dX11_pushed_32 : decode cX11_pushed 32 = .ok (.aload_n 0, 1) := by decide +kernel
theorem dX11_pushed_33 : decode cX11_pushed 33 = .ok (.getfield 47, 3) := by decide +kernel
theorem dX11_pushed_36 : decode cX11_pushed 36 = .ok (.iload_n 1, 1) := by decide +kernel
theorem dX11_pushed_37 : decode cX11_pushed 37 = .ok (.iaload, 1) := by decide +kernel
theorem dX11_pushed_38 : decode cX11_pushed 38 = .ok (.aload_n 0, 1) := by decide +kernel
theorem dX11_pushed_39 : decode cX11_pushed 39 = .ok (.iload_n 1, 1) := by decide +kernel
theorem dX11_pushed_40 : decode cX11_pushed 40 = .ok (.iload 4, 2) := by decide +kernel
theorem dX11_pushed_42 : decode cX11_pushed 42 = .ok (.invokevirtual 243, 3) := by decide +kernel
theorem dX11_pushed_45 : decode cX11_pushed 45 = .ok (.aload_n 0, 1) := by decide +kernel
theorem dX11_pushed_46 : decode cX11_pushed 46 = .ok (.iload_n 1, 1) := by decide +kernel
theorem dX11_pushed_47 : decode cX11_pushed 47 = .ok (.iload_n 3, 1) := by decide +kernel
theorem dX11_pushed_48 : decode cX11_pushed 48 = .ok (.invokevirtual 243, 3) := by decide +kernel
theorem dX11_pushed_51 : decode cX11_pushed 51 = .ok (.isub, 1) := by decide +kernel
theorem dX11_pushed_52 : decode cX11_pushed 52 = .ok (.imul, 1) := by decide +kernel
theorem dX11_pushed_53 : decode cX11_pushed 53 = .ok (.bipush 8, 2) := by decide +kernel
theorem dX11_pushed_55 : decode cX11_pushed 55 = .ok (.idiv, 1) := by decide +kernel
theorem dX11_pushed_56 : decode cX11_pushed 56 = .ok (.iadd, 1) := by decide +kernel
theorem dX11_pushed_57 : decode cX11_pushed 57 = .ok (.istore 5, 2) := by decide +kernel
theorem dX11_pushed_59 : decode cX11_pushed 59 = .ok (.iload 5, 2) := by decide +kernel
theorem dX11_pushed_61 : decode cX11_pushed 61 = .ok (.aload_n 0, 1) := by decide +kernel
theorem dX11_pushed_62 : decode cX11_pushed 62 = .ok (.getfield 38, 3) := by decide +kernel
theorem dX11_pushed_65 : decode cX11_pushed 65 = .ok (.iload_n 1, 1) := by decide +kernel
theorem dX11_pushed_66 : decode cX11_pushed 66 = .ok (.iaload, 1) := by decide +kernel
theorem dX11_pushed_67 : decode cX11_pushed 67 = .ok (.iconst 3, 1) := by decide +kernel
theorem dX11_pushed_68 : decode cX11_pushed 68 = .ok (.if_icmp .ne 7, 3) := by decide +kernel
theorem dX11_pushed_71 : decode cX11_pushed 71 = .ok (.iconst 0, 1) := by decide +kernel
theorem dX11_pushed_72 : decode cX11_pushed 72 = .ok (.goto 24, 3) := by decide +kernel
theorem dX11_pushed_75 : decode cX11_pushed 75 = .ok (.iload_n 2, 1) := by decide +kernel
theorem dX11_pushed_76 : decode cX11_pushed 76 = .ok (.iconst 2, 1) := by decide +kernel
theorem dX11_pushed_77 : decode cX11_pushed 77 = .ok (.irem, 1) := by decide +kernel
theorem dX11_pushed_78 : decode cX11_pushed 78 = .ok (.ifCond .ne 12, 3) := by decide +kernel
theorem dX11_pushed_81 : decode cX11_pushed 81 = .ok (.aload_n 0, 1) := by decide +kernel
theorem dX11_pushed_82 : decode cX11_pushed 82 = .ok (.getfield 53, 3) := by decide +kernel
theorem dX11_pushed_85 : decode cX11_pushed 85 = .ok (.iload_n 1, 1) := by decide +kernel
theorem dX11_pushed_86 : decode cX11_pushed 86 = .ok (.iaload, 1) := by decide +kernel
theorem dX11_pushed_87 : decode cX11_pushed 87 = .ok (.goto 9, 3) := by decide +kernel
theorem dX11_pushed_90 : decode cX11_pushed 90 = .ok (.aload_n 0, 1) := by decide +kernel
theorem dX11_pushed_91 : decode cX11_pushed 91 = .ok (.getfield 56, 3) := by decide +kernel
theorem dX11_pushed_94 : decode cX11_pushed 94 = .ok (.iload_n 1, 1) := by decide +kernel
theorem dX11_pushed_95 : decode cX11_pushed 95 = .ok (.iaload, 1) := by decide +kernel
theorem dX11_pushed_96 : decode cX11_pushed 96 = .ok (.iadd, 1) := by decide +kernel
theorem dX11_pushed_97 : decode cX11_pushed 97 = .ok (.istore 5, 2) := by decide +kernel
theorem dX11_pushed_99 : decode cX11_pushed 99 = .ok (.iload 5, 2) := by decide +kernel
theorem dX11_pushed_101 : decode cX11_pushed 101 = .ok (.iload 5, 2) := by decide +kernel
theorem dX11_pushed_103 : decode cX11_pushed 103 = .ok (.aload_n 0, 1) := by decide +kernel
theorem dX11_pushed_104 : decode cX11_pushed 104 = .ok (.getfield 50, 3) := by decide +kernel
theorem dX11_pushed_107 : decode cX11_pushed 107 = .ok (.iload_n 1, 1) := by decide +kernel
theorem dX11_pushed_108 : decode cX11_pushed 108 = .ok (.iaload, 1) := by decide +kernel
theorem dX11_pushed_109 : decode cX11_pushed 109 = .ok (.idiv, 1) := by decide +kernel
theorem dX11_pushed_110 : decode cX11_pushed 110 = .ok (.isub, 1) := by decide +kernel
theorem dX11_pushed_111 : decode cX11_pushed 111 = .ok (.istore 5, 2) := by decide +kernel
theorem dX11_pushed_113 : decode cX11_pushed 113 = .ok (.iload 5, 2) := by decide +kernel
theorem dX11_pushed_115 : decode cX11_pushed 115 = .ok (.ifCond .le 8, 3) := by decide +kernel
theorem dX11_pushed_118 : decode cX11_pushed 118 = .ok (.iload 4, 2) := by decide +kernel
theorem dX11_pushed_120 : decode cX11_pushed 120 = .ok (.goto 4, 3) := by decide +kernel
theorem dX11_pushed_123 : decode cX11_pushed 123 = .ok (.iload_n 3, 1) := by decide +kernel
theorem dX11_pushed_124 : decode cX11_pushed 124 = .ok (.istore 6, 2) := by decide +kernel
theorem dX11_pushed_126 : decode cX11_pushed 126 = .ok (.iload 5, 2) := by decide +kernel
theorem dX11_pushed_128 : decode cX11_pushed 128 = .ok (.ifCond .le 7, 3) := by decide +kernel
theorem dX11_pushed_131 : decode cX11_pushed 131 = .ok (.iload_n 3, 1) := by decide +kernel
theorem dX11_pushed_132 : decode cX11_pushed 132 = .ok (.goto 5, 3) := by decide +kernel
theorem dX11_pushed_135 : decode cX11_pushed 135 = .ok (.iload 4, 2) := by decide +kernel
theorem dX11_pushed_137 : decode cX11_pushed 137 = .ok (.istore 7, 2) := by decide +kernel
theorem dX11_pushed_139 : decode cX11_pushed 139 = .ok (.aload_n 0, 1) := by decide +kernel
theorem dX11_pushed_140 : decode cX11_pushed 140 = .ok (.getfield 92, 3) := by decide +kernel
theorem dX11_pushed_143 : decode cX11_pushed 143 = .ok (.bipush 48, 2) := by decide +kernel
theorem dX11_pushed_145 : decode cX11_pushed 145 = .ok (.iload_n 1, 1) := by decide +kernel
theorem dX11_pushed_146 : decode cX11_pushed 146 = .ok (.imul, 1) := by decide +kernel
theorem dX11_pushed_147 : decode cX11_pushed 147 = .ok (.iload 6, 2) := by decide +kernel
theorem dX11_pushed_149 : decode cX11_pushed 149 = .ok (.iadd, 1) := by decide +kernel
theorem dX11_pushed_150 : decode cX11_pushed 150 = .ok (.iaload, 1) := by decide +kernel
theorem dX11_pushed_151 : decode cX11_pushed 151 = .ok (.ifCond .eq 25, 3) := by decide +kernel
theorem dX11_pushed_154 : decode cX11_pushed 154 = .ok (.aload_n 0, 1) := by decide +kernel
theorem dX11_pushed_155 : decode cX11_pushed 155 = .ok (.getfield 89, 3) := by decide +kernel
theorem dX11_pushed_158 : decode cX11_pushed 158 = .ok (.bipush 48, 2) := by decide +kernel
theorem dX11_pushed_160 : decode cX11_pushed 160 = .ok (.iload_n 1, 1) := by decide +kernel
theorem dX11_pushed_161 : decode cX11_pushed 161 = .ok (.imul, 1) := by decide +kernel
theorem dX11_pushed_162 : decode cX11_pushed 162 = .ok (.iload 7, 2) := by decide +kernel
theorem dX11_pushed_164 : decode cX11_pushed 164 = .ok (.iadd, 1) := by decide +kernel
theorem dX11_pushed_165 : decode cX11_pushed 165 = .ok (.iaload, 1) := by decide +kernel
theorem dX11_pushed_166 : decode cX11_pushed 166 = .ok (.aload_n 0, 1) := by decide +kernel
theorem dX11_pushed_167 : decode cX11_pushed 167 = .ok (.iload_n 1, 1) := by decide +kernel
theorem dX11_pushed_168 : decode cX11_pushed 168 = .ok (.iload 6, 2) := by decide +kernel
theorem dX11_pushed_170 : decode cX11_pushed 170 = .ok (.invokevirtual 243, 3) := by decide +kernel
theorem dX11_pushed_173 : decode cX11_pushed 173 = .ok (.if_icmp .lt 7, 3) := by decide +kernel
theorem dX11_pushed_176 : decode cX11_pushed 176 = .ok (.iconst 0, 1) := by decide +kernel
theorem dX11_pushed_177 : decode cX11_pushed 177 = .ok (.goto 5, 3) := by decide +kernel
theorem dX11_pushed_180 : decode cX11_pushed 180 = .ok (.iload 5, 2) := by decide +kernel
theorem dX11_pushed_182 : decode cX11_pushed 182 = .ok (.ireturn, 1) := by decide +kernel
set_option maxRecDepth 20000 in
theorem ggX11_pushAll_X11_cells : GoodIn wsX11_pushAll wsX11_cells := goodIn_r _ [8, 9, 10, 38, 39, 40, 41, 42, 43, 44, 45, 46, 47, 48, 49, 50, 51, 52, 53, 54, 55, 56, 57, 58, 59, 60, 61, 62, 63, 64, 65, 66, 67, 68, 69, 70, 71, 72, 73, 74, 75, 76, 77, 78, 79, 80, 81, 82, 83, 84, 85, 86, 87, 88, 89, 90, 91, 92, 93, 94, 95, 96, 97, 98, 99, 100, 101, 102, 103] (by decide +kernel) (by decide +kernel)
set_option maxRecDepth 20000 in
theorem gX11_pushAll_X11_cells : GoodIn wsX11_pushAll (wsV RX11 223 RX11 yX11_cells wsX11_cells) := goodIn_app (goodIn_of _ (by decide +kernel)) ggX11_pushAll_X11_cells
set_option maxRecDepth 20000 in
theorem ggX11_pushAll_X11_beyond : GoodIn wsX11_pushAll wsX11_beyond := goodIn_r _ [14, 9, 15, 16, 17, 7, 18, 4, 5, 6, 8, 10, 19, 20, 21, 38, 39, 40, 41, 42, 43, 44, 45, 46, 47, 48, 49, 50, 51, 52, 53, 54, 55, 56, 57, 58, 59, 60, 61, 62, 63, 64, 65, 66, 67, 68, 69, 70, 71, 72, 73, 74, 75, 76, 77, 78, 79, 80, 81, 82, 83, 84, 85, 86, 87, 88, 89, 90, 91, 92, 93, 94, 95, 96, 97, 98, 99, 100, 101, 102, 103] (by decide +kernel) (by decide +kernel)
set_option maxRecDepth 20000 in
theorem gX11_pushAll_X11_beyond : GoodIn wsX11_pushAll (wsV RX11 246 RX11 yX11_beyond wsX11_beyond) := goodIn_app (goodIn_of _ (by decide +kernel)) ggX11_pushAll_X11_beyond
set_option maxRecDepth 20000 in
theorem ggX11_pushAll_X11_pushed : GoodIn wsX11_pushAll wsX11_pushed := goodIn_r _ [25, 26, 27, 28, 29, 30, 31, 32, 3, 33, 34, 35, 36, 7, 37, 38, 39, 40, 41, 42, 43, 44, 45, 46, 47, 48, 49, 50, 51, 52, 53, 54, 55, 56, 57, 58, 59, 60, 61, 62, 63, 64, 65, 66, 67, 68, 69, 70, 71, 72, 73, 74, 75, 76, 77, 78, 79, 80, 81, 82, 83, 84, 85, 86, 87, 88, 89, 90, 91, 92, 93, 94, 95, 96, 97, 98, 99, 100, 101, 102, 103] (by decide +kernel) (by decide +kernel)
set_option maxRecDepth 20000 in
theorem gX11_pushAll_X11_pushed : GoodIn wsX11_pushAll (wsV RX11 255 RX11 yX11_pushed wsX11_pushed) := goodIn_app (goodIn_of _ (by decide +kernel)) ggX11_pushAll_X11_pushed
theorem dX11_pushAll_0 : decode cX11_pushAll 0 = .ok (.iconst 0, 1) := by decide +kernel
theorem dX11_pushAll_1 : decode cX11_pushAll 1 = .ok (.istore_n 2, 1) := by decide +kernel
theorem dX11_pushAll_2 : decode cX11_pushAll 2 = .ok (.iload_n 2, 1) := by decide +kernel
theorem dX11_pushAll_3 : decode cX11_pushAll 3 = .ok (.bipush 48, 2) := by decide +kernel
theorem dX11_pushAll_5 : decode cX11_pushAll 5 = .ok (.if_icmp .ge 16, 3) := by decide +kernel
theorem dX11_pushAll_8 : decode cX11_pushAll 8 = .ok (.aload_n 0, 1) := by decide +kernel
theorem dX11_pushAll_9 : decode cX11_pushAll 9 = .ok (.getfield 123, 3) := by decide +kernel
theorem dX11_pushAll_12 : decode cX11_pushAll 12 = .ok (.iload_n 2, 1) := by decide +kernel
theorem dX11_pushAll_13 : decode cX11_pushAll 13 = .ok (.iconst 0, 1) := by decide +kernel
theorem dX11_pushAll_14 : decode cX11_pushAll 14 = .ok (.iastore, 1) := by decide +kernel
theorem dX11_pushAll_15 : decode cX11_pushAll 15 = .ok (.iinc 2 1, 3) := by decide +kernel
theorem dX11_pushAll_18 : decode cX11_pushAll 18 = .ok (.goto (-16), 3) := by decide +kernel
theorem dX11_pushAll_21 : decode cX11_pushAll 21 = .ok (.iconst 0, 1) := by decide +kernel
theorem dX11_pushAll_22 : decode cX11_pushAll 22 = .ok (.istore_n 2, 1) := by decide +kernel
theorem dX11_pushAll_23 : decode cX11_pushAll 23 = .ok (.iload_n 2, 1) := by decide +kernel
theorem dX11_pushAll_24 : decode cX11_pushAll 24 = .ok (.iconst 2, 1) := by decide +kernel
theorem dX11_pushAll_25 : decode cX11_pushAll 25 = .ok (.aload_n 0, 1) := by decide +kernel
theorem dX11_pushAll_26 : decode cX11_pushAll 26 = .ok (.iload_n 1, 1) := by decide +kernel
theorem dX11_pushAll_27 : decode cX11_pushAll 27 = .ok (.invokevirtual 223, 3) := by decide +kernel
theorem dX11_pushAll_30 : decode cX11_pushAll 30 = .ok (.imul, 1) := by decide +kernel
theorem dX11_pushAll_31 : decode cX11_pushAll 31 = .ok (.if_icmp .ge 96, 3) := by decide +kernel
theorem dX11_pushAll_34 : decode cX11_pushAll 34 = .ok (.aload_n 0, 1) := by decide +kernel
theorem dX11_pushAll_35 : decode cX11_pushAll 35 = .ok (.iload_n 1, 1) := by decide +kernel
theorem dX11_pushAll_36 : decode cX11_pushAll 36 = .ok (.iload_n 2, 1) := by decide +kernel
theorem dX11_pushAll_37 : decode cX11_pushAll 37 = .ok (.invokevirtual 246, 3) := by decide +kernel
theorem dX11_pushAll_40 : decode cX11_pushAll 40 = .ok (.istore_n 3, 1) := by decide +kernel
theorem dX11_pushAll_41 : decode cX11_pushAll 41 = .ok (.aload_n 0, 1) := by decide +kernel
theorem dX11_pushAll_42 : decode cX11_pushAll 42 = .ok (.getfield 120, 3) := by decide +kernel
theorem dX11_pushAll_45 : decode cX11_pushAll 45 = .ok (.iload_n 2, 1) := by decide +kernel
theorem dX11_pushAll_46 : decode cX11_pushAll 46 = .ok (.iload_n 3, 1) := by decide +kernel
theorem dX11_pushAll_47 : decode cX11_pushAll 47 = .ok (.ifCond .ge 7, 3) := by decide +kernel
theorem dX11_pushAll_50 : decode cX11_pushAll 50 = .ok (.iconst 0, 1) := by decide +kernel
theorem dX11_pushAll_51 : decode cX11_pushAll 51 = .ok (.goto 10, 3) := by decide +kernel
theorem dX11_pushAll_54 : decode cX11_pushAll 54 = .ok (.aload_n 0, 1) := by decide +kernel
theorem dX11_pushAll_55 : decode cX11_pushAll 55 = .ok (.iload_n 1, 1) := by decide +kernel
theorem dX11_pushAll_56 : decode cX11_pushAll 56 = .ok (.iload_n 2, 1) := by decide +kernel
theorem dX11_pushAll_57 : decode cX11_pushAll 57 = .ok (.iload_n 3, 1) := by decide +kernel
theorem dX11_pushAll_58 : decode cX11_pushAll 58 = .ok (.invokevirtual 255, 3) := by decide +kernel
theorem dX11_pushAll_61 : decode cX11_pushAll 61 = .ok (.iastore, 1) := by decide +kernel
theorem dX11_pushAll_62 : decode cX11_pushAll 62 = .ok (.aload_n 0, 1) := by decide +kernel
theorem dX11_pushAll_63 : decode cX11_pushAll 63 = .ok (.getfield 123, 3) := by decide +kernel
theorem dX11_pushAll_66 : decode cX11_pushAll 66 = .ok (.aload_n 0, 1) := by decide +kernel
theorem dX11_pushAll_67 : decode cX11_pushAll 67 = .ok (.getfield 120, 3) := by decide +kernel
theorem dX11_pushAll_70 : decode cX11_pushAll 70 = .ok (.iload_n 2, 1) := by decide +kernel
theorem dX11_pushAll_71 : decode cX11_pushAll 71 = .ok (.iaload, 1) := by decide +kernel
theorem dX11_pushAll_72 : decode cX11_pushAll 72 = .ok (.ifCond .le 9, 3) := by decide +kernel
theorem dX11_pushAll_75 : decode cX11_pushAll 75 = .ok (.iload_n 2, 1) := by decide +kernel
theorem dX11_pushAll_76 : decode cX11_pushAll 76 = .ok (.iconst 2, 1) := by decide +kernel
theorem dX11_pushAll_77 : decode cX11_pushAll 77 = .ok (.idiv, 1) := by decide +kernel
theorem dX11_pushAll_78 : decode cX11_pushAll 78 = .ok (.goto 14, 3) := by decide +kernel
theorem dX11_pushAll_81 : decode cX11_pushAll 81 = .ok (.iload_n 3, 1) := by decide +kernel
theorem dX11_pushAll_82 : decode cX11_pushAll 82 = .ok (.ifCond .ge 9, 3) := by decide +kernel
theorem dX11_pushAll_85 : decode cX11_pushAll 85 = .ok (.iload_n 2, 1) := by decide +kernel
theorem dX11_pushAll_86 : decode cX11_pushAll 86 = .ok (.iconst 2, 1) := by decide +kernel
theorem dX11_pushAll_87 : decode cX11_pushAll 87 = .ok (.idiv, 1) := by decide +kernel
theorem dX11_pushAll_88 : decode cX11_pushAll 88 = .ok (.goto 4, 3) := by decide +kernel
theorem dX11_pushAll_91 : decode cX11_pushAll 91 = .ok (.iload_n 3, 1) := by decide +kernel
theorem dX11_pushAll_92 : decode cX11_pushAll 92 = .ok (.dup2, 1) := by decide +kernel
theorem dX11_pushAll_93 : decode cX11_pushAll 93 = .ok (.iaload, 1) := by decide +kernel
theorem dX11_pushAll_94 : decode cX11_pushAll 94 = .ok (.aload_n 0, 1) := by decide +kernel
theorem dX11_pushAll_95 : decode cX11_pushAll 95 = .ok (.getfield 120, 3) := by decide +kernel
theorem dX11_pushAll_98 : decode cX11_pushAll 98 = .ok (.iload_n 2, 1) := by decide +kernel
theorem dX11_pushAll_99 : decode cX11_pushAll 99 = .ok (.iaload, 1) := by decide +kernel
theorem dX11_pushAll_100 : decode cX11_pushAll 100 = .ok (.ifCond .le 12, 3) := by decide +kernel
theorem dX11_pushAll_103 : decode cX11_pushAll 103 = .ok (.aload_n 0, 1) := by decide +kernel
theorem dX11_pushAll_104 : decode cX11_pushAll 104 = .ok (.getfield 120, 3) := by decide +kernel
theorem dX11_pushAll_107 : decode cX11_pushAll 107 = .ok (.iload_n 2, 1) := by decide +kernel
theorem dX11_pushAll_108 : decode cX11_pushAll 108 = .ok (.iaload, 1) := by decide +kernel
theorem dX11_pushAll_109 : decode cX11_pushAll 109 = .ok (.goto 10, 3) := by decide +kernel
theorem dX11_pushAll_112 : decode cX11_pushAll 112 = .ok (.aload_n 0, 1) := by decide +kernel
theorem dX11_pushAll_113 : decode cX11_pushAll 113 = .ok (.getfield 120, 3) := by decide +kernel
theorem dX11_pushAll_116 : decode cX11_pushAll 116 = .ok (.iload_n 2, 1) := by decide +kernel
theorem dX11_pushAll_117 : decode cX11_pushAll 117 = .ok (.iaload, 1) := by decide +kernel
theorem dX11_pushAll_118 : decode cX11_pushAll 118 = .ok (.ineg, 1) := by decide +kernel
theorem dX11_pushAll_119 : decode cX11_pushAll 119 = .ok (.iadd, 1) := by decide +kernel
theorem dX11_pushAll_120 : decode cX11_pushAll 120 = .ok (.iastore, 1) := by decide +kernel
theorem dX11_pushAll_121 : decode cX11_pushAll 121 = .ok (.iinc 2 1, 3) := by decide +kernel
theorem dX11_pushAll_124 : decode cX11_pushAll 124 = .ok (.goto (-101), 3) := by decide +kernel
theorem dX11_pushAll_127 : decode cX11_pushAll 127 = .ok (.iconst 0, 1) := by decide +kernel
theorem dX11_pushAll_128 : decode cX11_pushAll 128 = .ok (.istore_n 2, 1) := by decide +kernel
theorem dX11_pushAll_129 : decode cX11_pushAll 129 = .ok (.iload_n 2, 1) := by decide +kernel
theorem dX11_pushAll_130 : decode cX11_pushAll 130 = .ok (.iconst 2, 1) := by decide +kernel
theorem dX11_pushAll_131 : decode cX11_pushAll 131 = .ok (.aload_n 0, 1) := by decide +kernel
theorem dX11_pushAll_132 : decode cX11_pushAll 132 = .ok (.iload_n 1, 1) := by decide +kernel
theorem dX11_pushAll_133 : decode cX11_pushAll 133 = .ok (.invokevirtual 223, 3) := by decide +kernel
theorem dX11_pushAll_136 : decode cX11_pushAll 136 = .ok (.imul, 1) := by decide +kernel
theorem dX11_pushAll_137 : decode cX11_pushAll 137 = .ok (.if_icmp .ge 99, 3) := by decide +kernel
theorem dX11_pushAll_140 : decode cX11_pushAll 140 = .ok (.aload_n 0, 1) := by decide +kernel
theorem dX11_pushAll_141 : decode cX11_pushAll 141 = .ok (.getfield 120, 3) := by decide +kernel
theorem dX11_pushAll_144 : decode cX11_pushAll 144 = .ok (.iload_n 2, 1) := by decide +kernel
theorem dX11_pushAll_145 : decode cX11_pushAll 145 = .ok (.iaload, 1) := by decide +kernel
theorem dX11_pushAll_146 : decode cX11_pushAll 146 = .ok (.ifCond .eq 84, 3) := by decide +kernel
theorem dX11_pushAll_149 : decode cX11_pushAll 149 = .ok (.aload_n 0, 1) := by decide +kernel
theorem dX11_pushAll_150 : decode cX11_pushAll 150 = .ok (.getfield 120, 3) := by decide +kernel
theorem dX11_pushAll_153 : decode cX11_pushAll 153 = .ok (.iload_n 2, 1) := by decide +kernel
theorem dX11_pushAll_154 : decode cX11_pushAll 154 = .ok (.iaload, 1) := by decide +kernel
theorem dX11_pushAll_155 : decode cX11_pushAll 155 = .ok (.ifCond .le 9, 3) := by decide +kernel
theorem dX11_pushAll_158 : decode cX11_pushAll 158 = .ok (.iload_n 2, 1) := by decide +kernel
theorem dX11_pushAll_159 : decode cX11_pushAll 159 = .ok (.iconst 2, 1) := by decide +kernel
theorem dX11_pushAll_160 : decode cX11_pushAll 160 = .ok (.idiv, 1) := by decide +kernel
theorem dX11_pushAll_161 : decode cX11_pushAll 161 = .ok (.goto 9, 3) := by decide +kernel
theorem dX11_pushAll_164 : decode cX11_pushAll 164 = .ok (.aload_n 0, 1) := by decide +kernel
theorem dX11_pushAll_165 : decode cX11_pushAll 165 = .ok (.iload_n 1, 1) := by decide +kernel
theorem dX11_pushAll_166 : decode cX11_pushAll 166 = .ok (.iload_n 2, 1) := by decide +kernel
theorem dX11_pushAll_167 : decode cX11_pushAll 167 = .ok (.invokevirtual 246, 3) := by decide +kernel
theorem dX11_pushAll_170 : decode cX11_pushAll 170 = .ok (.istore_n 3, 1) := by decide +kernel
theorem dX11_pushAll_171 : decode cX11_pushAll 171 = .ok (.aload_n 0, 1) := by decide +kernel
theorem dX11_pushAll_172 : decode cX11_pushAll 172 = .ok (.getfield 92, 3) := by decide +kernel
theorem dX11_pushAll_175 : decode cX11_pushAll 175 = .ok (.bipush 48, 2) := by decide +kernel
theorem dX11_pushAll_177 : decode cX11_pushAll 177 = .ok (.iload_n 1, 1) := by decide +kernel
theorem dX11_pushAll_178 : decode cX11_pushAll 178 = .ok (.imul, 1) := by decide +kernel
theorem dX11_pushAll_179 : decode cX11_pushAll 179 = .ok (.iload_n 3, 1) := by decide +kernel
theorem dX11_pushAll_180 : decode cX11_pushAll 180 = .ok (.iadd, 1) := by decide +kernel
theorem dX11_pushAll_181 : decode cX11_pushAll 181 = .ok (.iaload, 1) := by decide +kernel
theorem dX11_pushAll_182 : decode cX11_pushAll 182 = .ok (.istore 4, 2) := by decide +kernel
theorem dX11_pushAll_184 : decode cX11_pushAll 184 = .ok (.aload_n 0, 1) := by decide +kernel
theorem dX11_pushAll_185 : decode cX11_pushAll 185 = .ok (.getfield 120, 3) := by decide +kernel
theorem dX11_pushAll_188 : decode cX11_pushAll 188 = .ok (.iload_n 2, 1) := by decide +kernel
theorem dX11_pushAll_189 : decode cX11_pushAll 189 = .ok (.aload_n 0, 1) := by decide +kernel
theorem dX11_pushAll_190 : decode cX11_pushAll 190 = .ok (.getfield 123, 3) := by decide +kernel
theorem dX11_pushAll_193 : decode cX11_pushAll 193 = .ok (.iload_n 3, 1) := by decide +kernel
theorem dX11_pushAll_194 : decode cX11_pushAll 194 = .ok (.iaload, 1) := by decide +kernel
theorem dX11_pushAll_195 : decode cX11_pushAll 195 = .ok (.iload 4, 2) := by decide +kernel
theorem dX11_pushAll_197 : decode cX11_pushAll 197 = .ok (.if_icmp .le 26, 3) := by decide +kernel
theorem dX11_pushAll_200 : decode cX11_pushAll 200 = .ok (.aload_n 0, 1) := by decide +kernel
theorem dX11_pushAll_201 : decode cX11_pushAll 201 = .ok (.getfield 120, 3) := by decide +kernel
theorem dX11_pushAll_204 : decode cX11_pushAll 204 = .ok (.iload_n 2, 1) := by decide +kernel
theorem dX11_pushAll_205 : decode cX11_pushAll 205 = .ok (.iaload, 1) := by decide +kernel
theorem dX11_pushAll_206 : decode cX11_pushAll 206 = .ok (.i2l, 1) := by decide +kernel
theorem dX11_pushAll_207 : decode cX11_pushAll 207 = .ok (.iload 4, 2) := by decide +kernel
theorem dX11_pushAll_209 : decode cX11_pushAll 209 = .ok (.i2l, 1) := by decide +kernel
theorem dX11_pushAll_210 : decode cX11_pushAll 210 = .ok (.lmul, 1) := by decide +kernel
theorem dX11_pushAll_211 : decode cX11_pushAll 211 = .ok (.aload_n 0, 1) := by decide +kernel
theorem dX11_pushAll_212 : decode cX11_pushAll 212 = .ok (.getfield 123, 3) := by decide +kernel
theorem dX11_pushAll_215 : decode cX11_pushAll 215 = .ok (.iload_n 3, 1) := by decide +kernel
theorem dX11_pushAll_216 : decode cX11_pushAll 216 = .ok (.iaload, 1) := by decide +kernel
theorem dX11_pushAll_217 : decode cX11_pushAll 217 = .ok (.i2l, 1) := by decide +kernel
theorem dX11_pushAll_218 : decode cX11_pushAll 218 = .ok (.ldiv, 1) := by decide +kernel
theorem dX11_pushAll_219 : decode cX11_pushAll 219 = .ok (.l2i, 1) := by decide +kernel
theorem dX11_pushAll_220 : decode cX11_pushAll 220 = .ok (.goto 9, 3) := by decide +kernel
theorem dX11_pushAll_223 : decode cX11_pushAll 223 = .ok (.aload_n 0, 1) := by decide +kernel
theorem dX11_pushAll_224 : decode cX11_pushAll 224 = .ok (.getfield 120, 3) := by decide +kernel
theorem dX11_pushAll_227 : decode cX11_pushAll 227 = .ok (.iload_n 2, 1) := by decide +kernel
theorem dX11_pushAll_228 : decode cX11_pushAll 228 = .ok (.iaload, 1) := by decide +kernel
theorem dX11_pushAll_229 : decode cX11_pushAll 229 = .ok (.iastore, 1) := by decide +kernel
theorem dX11_pushAll_230 : decode cX11_pushAll 230 = .ok (.iinc 2 1, 3) := by decide +kernel
theorem dX11_pushAll_233 : decode cX11_pushAll 233 = .ok (.goto (-104), 3) := by decide +kernel
theorem dX11_pushAll_236 : decode cX11_pushAll 236 = .ok (.return_, 1) := by decide +kernel
set_option maxRecDepth 20000 in
theorem ggX11_carryAll_X11_cells : GoodIn wsX11_carryAll wsX11_cells := goodIn_r _ [10, 11, 12, 24, 25, 26, 27, 28, 29, 30, 31, 32, 33, 34, 35, 36, 37, 38, 39, 40, 41, 42, 43, 44, 45, 46, 47, 48, 49, 50, 51, 52, 53, 54, 55, 56, 57, 58, 59, 60, 61, 62, 63, 64, 65, 66, 67, 68, 69, 70, 71, 72, 73, 74, 75, 76, 77, 78, 79, 80, 81, 82, 83, 84, 85, 86, 87, 88, 89] (by decide +kernel) (by decide +kernel)
set_option maxRecDepth 20000 in
theorem gX11_carryAll_X11_cells : GoodIn wsX11_carryAll (wsV RX11 223 RX11 yX11_cells wsX11_cells) := goodIn_app (goodIn_of _ (by decide +kernel)) ggX11_carryAll_X11_cells
set_option maxRecDepth 20000 in
theorem ggX11_carryAll_X11_beyond : GoodIn wsX11_carryAll wsX11_beyond := goodIn_r _ [16, 11, 17, 18, 19, 9, 20, 6, 7, 8, 10, 12, 21, 22, 23, 24, 25, 26, 27, 28, 29, 30, 31, 32, 33, 34, 35, 36, 37, 38, 39, 40, 41, 42, 43, 44, 45, 46, 47, 48, 49, 50, 51, 52, 53, 54, 55, 56, 57, 58, 59, 60, 61, 62, 63, 64, 65, 66, 67, 68, 69, 70, 71, 72, 73, 74, 75, 76, 77, 78, 79, 80, 81, 82, 83, 84, 85, 86, 87, 88, 89] (by decide +kernel) (by decide +kernel)
set_option maxRecDepth 20000 in
theorem gX11_carryAll_X11_beyond : GoodIn wsX11_carryAll (wsV RX11 246 RX11 yX11_beyond wsX11_beyond) := goodIn_app (goodIn_of _ (by decide +kernel)) ggX11_carryAll_X11_beyond
theorem dX11_carryAll_0 : decode cX11_carryAll 0 = .ok (.iconst 0, 1) := by decide +kernel
theorem dX11_carryAll_1 : decode cX11_carryAll 1 = .ok (.istore_n 2, 1) := by decide +kernel
theorem dX11_carryAll_2 : decode cX11_carryAll 2 = .ok (.iload_n 2, 1) := by decide +kernel
theorem dX11_carryAll_3 : decode cX11_carryAll 3 = .ok (.aload_n 0, 1) := by decide +kernel
theorem dX11_carryAll_4 : decode cX11_carryAll 4 = .ok (.iload_n 1, 1) := by decide +kernel
theorem dX11_carryAll_5 : decode cX11_carryAll 5 = .ok (.invokevirtual 223, 3) := by decide +kernel
theorem dX11_carryAll_8 : decode cX11_carryAll 8 = .ok (.if_icmp .ge 67, 3) := by decide +kernel
theorem dX11_carryAll_11 : decode cX11_carryAll 11 = .ok (.aload_n 0, 1) := by decide +kernel
theorem dX11_carryAll_12 : decode cX11_carryAll 12 = .ok (.getfield 126, 3) := by decide +kernel
theorem dX11_carryAll_15 : decode cX11_carryAll 15 = .ok (.iload_n 2, 1) := by decide +kernel
theorem dX11_carryAll_16 : decode cX11_carryAll 16 = .ok (.aload_n 0, 1) := by decide +kernel
theorem dX11_carryAll_17 : decode cX11_carryAll 17 = .ok (.getfield 92, 3) := by decide +kernel
theorem dX11_carryAll_20 : decode cX11_carryAll 20 = .ok (.bipush 48, 2) := by decide +kernel
theorem dX11_carryAll_22 : decode cX11_carryAll 22 = .ok (.iload_n 1, 1) := by decide +kernel
theorem dX11_carryAll_23 : decode cX11_carryAll 23 = .ok (.imul, 1) := by decide +kernel
theorem dX11_carryAll_24 : decode cX11_carryAll 24 = .ok (.iload_n 2, 1) := by decide +kernel
theorem dX11_carryAll_25 : decode cX11_carryAll 25 = .ok (.iadd, 1) := by decide +kernel
theorem dX11_carryAll_26 : decode cX11_carryAll 26 = .ok (.iaload, 1) := by decide +kernel
theorem dX11_carryAll_27 : decode cX11_carryAll 27 = .ok (.iastore, 1) := by decide +kernel
theorem dX11_carryAll_28 : decode cX11_carryAll 28 = .ok (.iconst 0, 1) := by decide +kernel
theorem dX11_carryAll_29 : decode cX11_carryAll 29 = .ok (.istore_n 3, 1) := by decide +kernel
theorem dX11_carryAll_30 : decode cX11_carryAll 30 = .ok (.iload_n 3, 1) := by decide +kernel
theorem dX11_carryAll_31 : decode cX11_carryAll 31 = .ok (.iconst 3, 1) := by decide +kernel
theorem dX11_carryAll_32 : decode cX11_carryAll 32 = .ok (.if_icmp .ge 37, 3) := by decide +kernel
theorem dX11_carryAll_35 : decode cX11_carryAll 35 = .ok (.aload_n 0, 1) := by decide +kernel
theorem dX11_carryAll_36 : decode cX11_carryAll 36 = .ok (.getfield 129, 3) := by decide +kernel
theorem dX11_carryAll_39 : decode cX11_carryAll 39 = .ok (.bipush 48, 2) := by decide +kernel
theorem dX11_carryAll_41 : decode cX11_carryAll 41 = .ok (.iload_n 3, 1) := by decide +kernel
theorem dX11_carryAll_42 : decode cX11_carryAll 42 = .ok (.imul, 1) := by decide +kernel
theorem dX11_carryAll_43 : decode cX11_carryAll 43 = .ok (.iload_n 2, 1) := by decide +kernel
theorem dX11_carryAll_44 : decode cX11_carryAll 44 = .ok (.iadd, 1) := by decide +kernel
theorem dX11_carryAll_45 : decode cX11_carryAll 45 = .ok (.aload_n 0, 1) := by decide +kernel
theorem dX11_carryAll_46 : decode cX11_carryAll 46 = .ok (.getfield 95, 3) := by decide +kernel
theorem dX11_carryAll_49 : decode cX11_carryAll 49 = .ok (.sipush 144, 3) := by decide +kernel
theorem dX11_carryAll_52 : decode cX11_carryAll 52 = .ok (.iload_n 1, 1) := by decide +kernel
theorem dX11_carryAll_53 : decode cX11_carryAll 53 = .ok (.imul, 1) := by decide +kernel
theorem dX11_carryAll_54 : decode cX11_carryAll 54 = .ok (.bipush 48, 2) := by decide +kernel
theorem dX11_carryAll_56 : decode cX11_carryAll 56 = .ok (.iload_n 3, 1) := by decide +kernel
theorem dX11_carryAll_57 : decode cX11_carryAll 57 = .ok (.imul, 1) := by decide +kernel
theorem dX11_carryAll_58 : decode cX11_carryAll 58 = .ok (.iadd, 1) := by decide +kernel
theorem dX11_carryAll_59 : decode cX11_carryAll 59 = .ok (.iload_n 2, 1) := by decide +kernel
theorem dX11_carryAll_60 : decode cX11_carryAll 60 = .ok (.iadd, 1) := by decide +kernel
theorem dX11_carryAll_61 : decode cX11_carryAll 61 = .ok (.iaload, 1) := by decide +kernel
theorem dX11_carryAll_62 : decode cX11_carryAll 62 = .ok (.iastore, 1) := by decide +kernel
theorem dX11_carryAll_63 : decode cX11_carryAll 63 = .ok (.iinc 3 1, 3) := by decide +kernel
theorem dX11_carryAll_66 : decode cX11_carryAll 66 = .ok (.goto (-36), 3) := by decide +kernel
theorem dX11_carryAll_69 : decode cX11_carryAll 69 = .ok (.iinc 2 1, 3) := by decide +kernel
theorem dX11_carryAll_72 : decode cX11_carryAll 72 = .ok (.goto (-70), 3) := by decide +kernel
theorem dX11_carryAll_75 : decode cX11_carryAll 75 = .ok (.iconst 0, 1) := by decide +kernel
theorem dX11_carryAll_76 : decode cX11_carryAll 76 = .ok (.istore_n 2, 1) := by decide +kernel
theorem dX11_carryAll_77 : decode cX11_carryAll 77 = .ok (.iload_n 2, 1) := by decide +kernel
theorem dX11_carryAll_78 : decode cX11_carryAll 78 = .ok (.iconst 2, 1) := by decide +kernel
theorem dX11_carryAll_79 : decode cX11_carryAll 79 = .ok (.aload_n 0, 1) := by decide +kernel
theorem dX11_carryAll_80 : decode cX11_carryAll 80 = .ok (.iload_n 1, 1) := by decide +kernel
theorem dX11_carryAll_81 : decode cX11_carryAll 81 = .ok (.invokevirtual 223, 3) := by decide +kernel
theorem dX11_carryAll_84 : decode cX11_carryAll 84 = .ok (.imul, 1) := by decide +kernel
theorem dX11_carryAll_85 : decode cX11_carryAll 85 = .ok (.if_icmp .ge 202, 3) := by decide +kernel
theorem dX11_carryAll_88 : decode cX11_carryAll 88 = .ok (.aload_n 0, 1) := by decide +kernel
theorem dX11_carryAll_89 : decode cX11_carryAll 89 = .ok (.getfield 120, 3) := by decide +kernel
theorem dX11_carryAll_92 : decode cX11_carryAll 92 = .ok (.iload_n 2, 1) := by decide +kernel
theorem dX11_carryAll_93 : decode cX11_carryAll 93 = .ok (.iaload, 1) := by decide +kernel
theorem dX11_carryAll_94 : decode cX11_carryAll 94 = .ok (.ifCond .eq 187, 3) := by decide +kernel
theorem dX11_carryAll_97 : decode cX11_carryAll 97 = .ok (.aload_n 0, 1) := by decide +kernel
theorem dX11_carryAll_98 : decode cX11_carryAll 98 = .ok (.getfield 120, 3) := by decide +kernel
theorem dX11_carryAll_101 : decode cX11_carryAll 101 = .ok (.iload_n 2, 1) := by decide +kernel
theorem dX11_carryAll_102 : decode cX11_carryAll 102 = .ok (.iaload, 1) := by decide +kernel
theorem dX11_carryAll_103 : decode cX11_carryAll 103 = .ok (.ifCond .le 9, 3) := by decide +kernel
theorem dX11_carryAll_106 : decode cX11_carryAll 106 = .ok (.iload_n 2, 1) := by decide +kernel
theorem dX11_carryAll_107 : decode cX11_carryAll 107 = .ok (.iconst 2, 1) := by decide +kernel
theorem dX11_carryAll_108 : decode cX11_carryAll 108 = .ok (.idiv, 1) := by decide +kernel
theorem dX11_carryAll_109 : decode cX11_carryAll 109 = .ok (.goto 9, 3) := by decide +kernel
theorem dX11_carryAll_112 : decode cX11_carryAll 112 = .ok (.aload_n 0, 1) := by decide +kernel
theorem dX11_carryAll_113 : decode cX11_carryAll 113 = .ok (.iload_n 1, 1) := by decide +kernel
theorem dX11_carryAll_114 : decode cX11_carryAll 114 = .ok (.iload_n 2, 1) := by decide +kernel
theorem dX11_carryAll_115 : decode cX11_carryAll 115 = .ok (.invokevirtual 246, 3) := by decide +kernel
theorem dX11_carryAll_118 : decode cX11_carryAll 118 = .ok (.istore_n 3, 1) := by decide +kernel
theorem dX11_carryAll_119 : decode cX11_carryAll 119 = .ok (.aload_n 0, 1) := by decide +kernel
theorem dX11_carryAll_120 : decode cX11_carryAll 120 = .ok (.getfield 120, 3) := by decide +kernel
theorem dX11_carryAll_123 : decode cX11_carryAll 123 = .ok (.iload_n 2, 1) := by decide +kernel
theorem dX11_carryAll_124 : decode cX11_carryAll 124 = .ok (.iaload, 1) := by decide +kernel
theorem dX11_carryAll_125 : decode cX11_carryAll 125 = .ok (.ifCond .le 12, 3) := by decide +kernel
theorem dX11_carryAll_128 : decode cX11_carryAll 128 = .ok (.aload_n 0, 1) := by decide +kernel
theorem dX11_carryAll_129 : decode cX11_carryAll 129 = .ok (.iload_n 1, 1) := by decide +kernel
theorem dX11_carryAll_130 : decode cX11_carryAll 130 = .ok (.iload_n 2, 1) := by decide +kernel
theorem dX11_carryAll_131 : decode cX11_carryAll 131 = .ok (.invokevirtual 246, 3) := by decide +kernel
theorem dX11_carryAll_134 : decode cX11_carryAll 134 = .ok (.goto 6, 3) := by decide +kernel
theorem dX11_carryAll_137 : decode cX11_carryAll 137 = .ok (.iload_n 2, 1) := by decide +kernel
theorem dX11_carryAll_138 : decode cX11_carryAll 138 = .ok (.iconst 2, 1) := by decide +kernel
theorem dX11_carryAll_139 : decode cX11_carryAll 139 = .ok (.idiv, 1) := by decide +kernel
theorem dX11_carryAll_140 : decode cX11_carryAll 140 = .ok (.istore 4, 2) := by decide +kernel
theorem dX11_carryAll_142 : decode cX11_carryAll 142 = .ok (.aload_n 0, 1) := by decide +kernel
theorem dX11_carryAll_143 : decode cX11_carryAll 143 = .ok (.getfield 120, 3) := by decide +kernel
theorem dX11_carryAll_146 : decode cX11_carryAll 146 = .ok (.iload_n 2, 1) := by decide +kernel
theorem dX11_carryAll_147 : decode cX11_carryAll 147 = .ok (.iaload, 1) := by decide +kernel
theorem dX11_carryAll_148 : decode cX11_carryAll 148 = .ok (.ifCond .le 12, 3) := by decide +kernel
theorem dX11_carryAll_151 : decode cX11_carryAll 151 = .ok (.aload_n 0, 1) := by decide +kernel
theorem dX11_carryAll_152 : decode cX11_carryAll 152 = .ok (.getfield 120, 3) := by decide +kernel
theorem dX11_carryAll_155 : decode cX11_carryAll 155 = .ok (.iload_n 2, 1) := by decide +kernel
theorem dX11_carryAll_156 : decode cX11_carryAll 156 = .ok (.iaload, 1) := by decide +kernel
theorem dX11_carryAll_157 : decode cX11_carryAll 157 = .ok (.goto 10, 3) := by decide +kernel
theorem dX11_carryAll_160 : decode cX11_carryAll 160 = .ok (.aload_n 0, 1) := by decide +kernel
theorem dX11_carryAll_161 : decode cX11_carryAll 161 = .ok (.getfield 120, 3) := by decide +kernel
theorem dX11_carryAll_164 : decode cX11_carryAll 164 = .ok (.iload_n 2, 1) := by decide +kernel
theorem dX11_carryAll_165 : decode cX11_carryAll 165 = .ok (.iaload, 1) := by decide +kernel
theorem dX11_carryAll_166 : decode cX11_carryAll 166 = .ok (.ineg, 1) := by decide +kernel
theorem dX11_carryAll_167 : decode cX11_carryAll 167 = .ok (.istore 5, 2) := by decide +kernel
theorem dX11_carryAll_169 : decode cX11_carryAll 169 = .ok (.aload_n 0, 1) := by decide +kernel
theorem dX11_carryAll_170 : decode cX11_carryAll 170 = .ok (.getfield 126, 3) := by decide +kernel
theorem dX11_carryAll_173 : decode cX11_carryAll 173 = .ok (.iload_n 3, 1) := by decide +kernel
theorem dX11_carryAll_174 : decode cX11_carryAll 174 = .ok (.dup2, 1) := by decide +kernel
theorem dX11_carryAll_175 : decode cX11_carryAll 175 = .ok (.iaload, 1) := by decide +kernel
theorem dX11_carryAll_176 : decode cX11_carryAll 176 = .ok (.iload 5, 2) := by decide +kernel
theorem dX11_carryAll_178 : decode cX11_carryAll 178 = .ok (.isub, 1) := by decide +kernel
theorem dX11_carryAll_179 : decode cX11_carryAll 179 = .ok (.iastore, 1) := by decide +kernel
theorem dX11_carryAll_180 : decode cX11_carryAll 180 = .ok (.aload_n 0, 1) := by decide +kernel
theorem dX11_carryAll_181 : decode cX11_carryAll 181 = .ok (.getfield 126, 3) := by decide +kernel
theorem dX11_carryAll_184 : decode cX11_carryAll 184 = .ok (.iload 4, 2) := by decide +kernel
theorem dX11_carryAll_186 : decode cX11_carryAll 186 = .ok (.dup2, 1) := by decide +kernel
theorem dX11_carryAll_187 : decode cX11_carryAll 187 = .ok (.iaload, 1) := by decide +kernel
theorem dX11_carryAll_188 : decode cX11_carryAll 188 = .ok (.iload 5, 2) := by decide +kernel
theorem dX11_carryAll_190 : decode cX11_carryAll 190 = .ok (.iadd, 1) := by decide +kernel
theorem dX11_carryAll_191 : decode cX11_carryAll 191 = .ok (.iastore, 1) := by decide +kernel
theorem dX11_carryAll_192 : decode cX11_carryAll 192 = .ok (.iconst 0, 1) := by decide +kernel
theorem dX11_carryAll_193 : decode cX11_carryAll 193 = .ok (.istore 6, 2) := by decide +kernel
theorem dX11_carryAll_195 : decode cX11_carryAll 195 = .ok (.iload 6, 2) := by decide +kernel
theorem dX11_carryAll_197 : decode cX11_carryAll 197 = .ok (.iconst 3, 1) := by decide +kernel
theorem dX11_carryAll_198 : decode cX11_carryAll 198 = .ok (.if_icmp .ge 83, 3) := by decide +kernel
theorem dX11_carryAll_201 : decode cX11_carryAll 201 = .ok (.aload_n 0, 1) := by decide +kernel
theorem dX11_carryAll_202 : decode cX11_carryAll 202 = .ok (.getfield 95, 3) := by decide +kernel
theorem dX11_carryAll_205 : decode cX11_carryAll 205 = .ok (.sipush 144, 3) := by decide +kernel
theorem dX11_carryAll_208 : decode cX11_carryAll 208 = .ok (.iload_n 1, 1) := by decide +kernel
theorem dX11_carryAll_209 : decode cX11_carryAll 209 = .ok (.imul, 1) := by decide +kernel
theorem dX11_carryAll_210 : decode cX11_carryAll 210 = .ok (.bipush 48, 2) := by decide +kernel
theorem dX11_carryAll_212 : decode cX11_carryAll 212 = .ok (.iload 6, 2) := by decide +kernel
theorem dX11_carryAll_214 : decode cX11_carryAll 214 = .ok (.imul, 1) := by decide +kernel
theorem dX11_carryAll_215 : decode cX11_carryAll 215 = .ok (.iadd, 1) := by decide +kernel
theorem dX11_carryAll_216 : decode cX11_carryAll 216 = .ok (.iload_n 3, 1) := by decide +kernel
theorem dX11_carryAll_217 : decode cX11_carryAll 217 = .ok (.iadd, 1) := by decide +kernel
theorem dX11_carryAll_218 : decode cX11_carryAll 218 = .ok (.iaload, 1) := by decide +kernel
theorem dX11_carryAll_219 : decode cX11_carryAll 219 = .ok (.i2l, 1) := by decide +kernel
theorem dX11_carryAll_220 : decode cX11_carryAll 220 = .ok (.iload 5, 2) := by decide +kernel
theorem dX11_carryAll_222 : decode cX11_carryAll 222 = .ok (.i2l, 1) := by decide +kernel
theorem dX11_carryAll_223 : decode cX11_carryAll 223 = .ok (.lmul, 1) := by decide +kernel
theorem dX11_carryAll_224 : decode cX11_carryAll 224 = .ok (.aload_n 0, 1) := by decide +kernel
theorem dX11_carryAll_225 : decode cX11_carryAll 225 = .ok (.getfield 92, 3) := by decide +kernel
theorem dX11_carryAll_228 : decode cX11_carryAll 228 = .ok (.bipush 48, 2) := by decide +kernel
theorem dX11_carryAll_230 : decode cX11_carryAll 230 = .ok (.iload_n 1, 1) := by decide +kernel
theorem dX11_carryAll_231 : decode cX11_carryAll 231 = .ok (.imul, 1) := by decide +kernel
theorem dX11_carryAll_232 : decode cX11_carryAll 232 = .ok (.iload_n 3, 1) := by decide +kernel
theorem dX11_carryAll_233 : decode cX11_carryAll 233 = .ok (.iadd, 1) := by decide +kernel
theorem dX11_carryAll_234 : decode cX11_carryAll 234 = .ok (.iaload, 1) := by decide +kernel
theorem dX11_carryAll_235 : decode cX11_carryAll 235 = .ok (.i2l, 1) := by decide +kernel
theorem dX11_carryAll_236 : decode cX11_carryAll 236 = .ok (.ldiv, 1) := by decide +kernel
theorem dX11_carryAll_237 : decode cX11_carryAll 237 = .ok (.l2i, 1) := by decide +kernel
theorem dX11_carryAll_238 : decode cX11_carryAll 238 = .ok (.istore 7, 2) := by decide +kernel
theorem dX11_carryAll_240 : decode cX11_carryAll 240 = .ok (.aload_n 0, 1) := by decide +kernel
theorem dX11_carryAll_241 : decode cX11_carryAll 241 = .ok (.getfield 129, 3) := by decide +kernel
theorem dX11_carryAll_244 : decode cX11_carryAll 244 = .ok (.bipush 48, 2) := by decide +kernel
theorem dX11_carryAll_246 : decode cX11_carryAll 246 = .ok (.iload 6, 2) := by decide +kernel
theorem dX11_carryAll_248 : decode cX11_carryAll 248 = .ok (.imul, 1) := by decide +kernel
theorem dX11_carryAll_249 : decode cX11_carryAll 249 = .ok (.iload_n 3, 1) := by decide +kernel
theorem dX11_carryAll_250 : decode cX11_carryAll 250 = .ok (.iadd, 1) := by decide +kernel
theorem dX11_carryAll_251 : decode cX11_carryAll 251 = .ok (.dup2, 1) := by decide +kernel
theorem dX11_carryAll_252 : decode cX11_carryAll 252 = .ok (.iaload, 1) := by decide +kernel
theorem dX11_carryAll_253 : decode cX11_carryAll 253 = .ok (.iload 7, 2) := by decide +kernel
theorem dX11_carryAll_255 : decode cX11_carryAll 255 = .ok (.isub, 1) := by decide +kernel
theorem dX11_carryAll_256 : decode cX11_carryAll 256 = .ok (.iastore, 1) := by decide +kernel
theorem dX11_carryAll_257 : decode cX11_carryAll 257 = .ok (.aload_n 0, 1) := by decide +kernel
theorem dX11_carryAll_258 : decode cX11_carryAll 258 = .ok (.getfield 129, 3) := by decide +kernel
theorem dX11_carryAll_261 : decode cX11_carryAll 261 = .ok (.bipush 48, 2) := by decide +kernel
theorem dX11_carryAll_263 : decode cX11_carryAll 263 = .ok (.iload 6, 2) := by decide +kernel
theorem dX11_carryAll_265 : decode cX11_carryAll 265 = .ok (.imul, 1) := by decide +kernel
theorem dX11_carryAll_266 : decode cX11_carryAll 266 = .ok (.iload 4, 2) := by decide +kernel
theorem dX11_carryAll_268 : decode cX11_carryAll 268 = .ok (.iadd, 1) := by decide +kernel
theorem dX11_carryAll_269 : decode cX11_carryAll 269 = .ok (.dup2, 1) := by decide +kernel
theorem dX11_carryAll_270 : decode cX11_carryAll 270 = .ok (.iaload, 1) := by decide +kernel
theorem dX11_carryAll_271 : decode cX11_carryAll 271 = .ok (.iload 7, 2) := by decide +kernel
theorem dX11_carryAll_273 : decode cX11_carryAll 273 = .ok (.iadd, 1) := by decide +kernel
theorem dX11_carryAll_274 : decode cX11_carryAll 274 = .ok (.iastore, 1) := by decide +kernel
theorem dX11_carryAll_275 : decode cX11_carryAll 275 = .ok (.iinc 6 1, 3) := by decide +kernel
theorem dX11_carryAll_278 : decode cX11_carryAll 278 = .ok (.goto (-83), 3) := by decide +kernel
theorem dX11_carryAll_281 : decode cX11_carryAll 281 = .ok (.iinc 2 1, 3) := by decide +kernel
theorem dX11_carryAll_284 : decode cX11_carryAll 284 = .ok (.goto (-207), 3) := by decide +kernel
theorem dX11_carryAll_287 : decode cX11_carryAll 287 = .ok (.return_, 1) := by decide +kernel
set_option maxRecDepth 20000 in
theorem ggX11_hasTide_X11_isTidal : GoodIn wsX11_hasTide wsX11_isTidal := goodIn_r _ [7, 8, 9, 10, 11, 12, 13, 14, 15, 16, 17, 18, 19, 20, 21, 22, 23, 24, 25, 26, 27, 28, 29, 30, 31, 32, 33, 34, 35, 36, 37, 38, 39, 40, 41, 42, 43, 44, 45, 46, 47, 48, 49, 50, 51, 52, 53, 54, 55, 56, 57, 58, 59, 60, 61, 62, 63, 64, 65, 66, 67, 68, 69, 70, 71, 72, 73, 74] (by decide +kernel) (by decide +kernel)
set_option maxRecDepth 20000 in
theorem gX11_hasTide_X11_isTidal : GoodIn wsX11_hasTide (wsV RX11 252 RX11 yX11_isTidal wsX11_isTidal) := goodIn_app (goodIn_of _ (by decide +kernel)) ggX11_hasTide_X11_isTidal
theorem dX11_hasTide_0 : decode cX11_hasTide 0 = .ok (.aload_n 0, 1) := by decide +kernel
theorem dX11_hasTide_1 : decode cX11_hasTide 1 = .ok (.iload_n 1, 1) := by decide +kernel
theorem dX11_hasTide_2 : decode cX11_hasTide 2 = .ok (.invokevirtual 252, 3) := by decide +kernel
theorem dX11_hasTide_5 : decode cX11_hasTide 5 = .ok (.ifCond .eq 30, 3) := by decide +kernel
theorem dX11_hasTide_8 : decode cX11_hasTide 8 = .ok (.aload_n 0, 1) := by decide +kernel
theorem dX11_hasTide_9 : decode cX11_hasTide 9 = .ok (.getfield 68, 3) := by decide +kernel
theorem dX11_hasTide_12 : decode cX11_hasTide 12 = .ok (.iload_n 1, 1) := by decide +kernel
theorem dX11_hasTide_13 : decode cX11_hasTide 13 = .ok (.iaload, 1) := by decide +kernel
theorem dX11_hasTide_14 : decode cX11_hasTide 14 = .ok (.ifCond .lt 21, 3) := by decide +kernel
theorem dX11_hasTide_17 : decode cX11_hasTide 17 = .ok (.aload_n 0, 1) := by decide +kernel
theorem dX11_hasTide_18 : decode cX11_hasTide 18 = .ok (.getfield 17, 3) := by decide +kernel
theorem dX11_hasTide_21 : decode cX11_hasTide 21 = .ok (.aload_n 0, 1) := by decide +kernel
theorem dX11_hasTide_22 : decode cX11_hasTide 22 = .ok (.getfield 68, 3) := by decide +kernel
theorem dX11_hasTide_25 : decode cX11_hasTide 25 = .ok (.iload_n 1, 1) := by decide +kernel
theorem dX11_hasTide_26 : decode cX11_hasTide 26 = .ok (.iaload, 1) := by decide +kernel
theorem dX11_hasTide_27 : decode cX11_hasTide 27 = .ok (.iaload, 1) := by decide +kernel
theorem dX11_hasTide_28 : decode cX11_hasTide 28 = .ok (.ifCond .le 7, 3) := by decide +kernel
theorem dX11_hasTide_31 : decode cX11_hasTide 31 = .ok (.iconst 1, 1) := by decide +kernel
theorem dX11_hasTide_32 : decode cX11_hasTide 32 = .ok (.goto 4, 3) := by decide +kernel
theorem dX11_hasTide_35 : decode cX11_hasTide 35 = .ok (.iconst 0, 1) := by decide +kernel
theorem dX11_hasTide_36 : decode cX11_hasTide 36 = .ok (.ireturn, 1) := by decide +kernel
theorem dX11_rimLevel_0 : decode cX11_rimLevel 0 = .ok (.aload_n 0, 1) := by decide +kernel
theorem dX11_rimLevel_1 : decode cX11_rimLevel 1 = .ok (.getfield 68, 3) := by decide +kernel
theorem dX11_rimLevel_4 : decode cX11_rimLevel 4 = .ok (.iload_n 1, 1) := by decide +kernel
theorem dX11_rimLevel_5 : decode cX11_rimLevel 5 = .ok (.iaload, 1) := by decide +kernel
theorem dX11_rimLevel_6 : decode cX11_rimLevel 6 = .ok (.istore_n 2, 1) := by decide +kernel
theorem dX11_rimLevel_7 : decode cX11_rimLevel 7 = .ok (.aload_n 0, 1) := by decide +kernel
theorem dX11_rimLevel_8 : decode cX11_rimLevel 8 = .ok (.getfield 20, 3) := by decide +kernel
theorem dX11_rimLevel_11 : decode cX11_rimLevel 11 = .ok (.bipush 48, 2) := by decide +kernel
theorem dX11_rimLevel_13 : decode cX11_rimLevel 13 = .ok (.iload_n 2, 1) := by decide +kernel
theorem dX11_rimLevel_14 : decode cX11_rimLevel 14 = .ok (.imul, 1) := by decide +kernel
theorem dX11_rimLevel_15 : decode cX11_rimLevel 15 = .ok (.aload_n 0, 1) := by decide +kernel
theorem dX11_rimLevel_16 : decode cX11_rimLevel 16 = .ok (.getfield 59, 3) := by decide +kernel
theorem dX11_rimLevel_19 : decode cX11_rimLevel 19 = .ok (.iload_n 1, 1) := by decide +kernel
theorem dX11_rimLevel_20 : decode cX11_rimLevel 20 = .ok (.iaload, 1) := by decide +kernel
theorem dX11_rimLevel_21 : decode cX11_rimLevel 21 = .ok (.aload_n 0, 1) := by decide +kernel
theorem dX11_rimLevel_22 : decode cX11_rimLevel 22 = .ok (.getfield 17, 3) := by decide +kernel
theorem dX11_rimLevel_25 : decode cX11_rimLevel 25 = .ok (.iload_n 2, 1) := by decide +kernel
theorem dX11_rimLevel_26 : decode cX11_rimLevel 26 = .ok (.iaload, 1) := by decide +kernel
theorem dX11_rimLevel_27 : decode cX11_rimLevel 27 = .ok (.irem, 1) := by decide +kernel
theorem dX11_rimLevel_28 : decode cX11_rimLevel 28 = .ok (.iadd, 1) := by decide +kernel
theorem dX11_rimLevel_29 : decode cX11_rimLevel 29 = .ok (.iaload, 1) := by decide +kernel
theorem dX11_rimLevel_30 : decode cX11_rimLevel 30 = .ok (.aload_n 0, 1) := by decide +kernel
theorem dX11_rimLevel_31 : decode cX11_rimLevel 31 = .ok (.getfield 71, 3) := by decide +kernel
theorem dX11_rimLevel_34 : decode cX11_rimLevel 34 = .ok (.iload_n 1, 1) := by decide +kernel
theorem dX11_rimLevel_35 : decode cX11_rimLevel 35 = .ok (.iaload, 1) := by decide +kernel
theorem dX11_rimLevel_36 : decode cX11_rimLevel 36 = .ok (.iadd, 1) := by decide +kernel
theorem dX11_rimLevel_37 : decode cX11_rimLevel 37 = .ok (.ireturn, 1) := by decide +kernel
set_option maxRecDepth 20000 in
theorem ggX11_leadRim_X11_rimLevel : GoodIn wsX11_leadRim wsX11_rimLevel := goodIn_r _ [10, 11, 12, 13, 14, 15, 21, 22, 23, 24, 25, 26, 27, 28, 29, 30, 31, 32, 33, 34, 35, 36, 37, 38, 39, 40, 41, 42, 43, 44, 45, 46, 47, 48, 49, 50, 51, 52, 53, 54, 55, 56, 57, 58, 59, 60, 61, 62, 63, 64, 65, 66, 67, 68, 69, 70, 71, 72, 73, 74, 75, 76, 77, 78, 79, 80, 81, 82, 83, 84, 85, 86] (by decide +kernel) (by decide +kernel)
set_option maxRecDepth 20000 in
theorem gX11_leadRim_X11_rimLevel : GoodIn wsX11_leadRim (wsV RX11 259 RX11 yX11_rimLevel wsX11_rimLevel) := goodIn_app (goodIn_of _ (by decide +kernel)) ggX11_leadRim_X11_rimLevel
set_option maxRecDepth 20000 in
theorem ggX11_leadRim_X11_cells : GoodIn wsX11_leadRim wsX11_cells := goodIn_r _ [19, 5, 20, 21, 22, 23, 24, 25, 26, 27, 28, 29, 30, 31, 32, 33, 34, 35, 36, 37, 38, 39, 40, 41, 42, 43, 44, 45, 46, 47, 48, 49, 50, 51, 52, 53, 54, 55, 56, 57, 58, 59, 60, 61, 62, 63, 64, 65, 66, 67, 68, 69, 70, 71, 72, 73, 74, 75, 76, 77, 78, 79, 80, 81, 82, 83, 84, 85, 86] (by decide +kernel) (by decide +kernel)
set_option maxRecDepth 20000 in
theorem gX11_leadRim_X11_cells : GoodIn wsX11_leadRim (wsV RX11 223 RX11 yX11_cells wsX11_cells) := goodIn_app (goodIn_of _ (by decide +kernel)) ggX11_leadRim_X11_cells
theorem dX11_leadRim_0 : decode cX11_leadRim 0 = .ok (.aload_n 0, 1) := by decide +kernel
theorem dX11_leadRim_1 : decode cX11_leadRim 1 = .ok (.iload_n 1, 1) := by decide +kernel
theorem dX11_leadRim_2 : decode cX11_leadRim 2 = .ok (.invokevirtual 259, 3) := by decide +kernel
theorem dX11_leadRim_5 : decode cX11_leadRim 5 = .ok (.istore_n 2, 1) := by decide +kernel
theorem dX11_leadRim_6 : decode cX11_leadRim 6 = .ok (.iconst 0, 1) := by decide +kernel
theorem dX11_leadRim_7 : decode cX11_leadRim 7 = .ok (.istore_n 3, 1) := by decide +kernel
theorem dX11_leadRim_8 : decode cX11_leadRim 8 = .ok (.iload_n 3, 1) := by decide +kernel
theorem dX11_leadRim_9 : decode cX11_leadRim 9 = .ok (.aload_n 0, 1) := by decide +kernel
theorem dX11_leadRim_10 : decode cX11_leadRim 10 = .ok (.iload_n 1, 1) := by decide +kernel
theorem dX11_leadRim_11 : decode cX11_leadRim 11 = .ok (.invokevirtual 223, 3) := by decide +kernel
theorem dX11_leadRim_14 : decode cX11_leadRim 14 = .ok (.if_icmp .ge 91, 3) := by decide +kernel
theorem dX11_leadRim_17 : decode cX11_leadRim 17 = .ok (.iload_n 2, 1) := by decide +kernel
theorem dX11_leadRim_18 : decode cX11_leadRim 18 = .ok (.aload_n 0, 1) := by decide +kernel
theorem dX11_leadRim_19 : decode cX11_leadRim 19 = .ok (.getfield 89, 3) := by decide +kernel
theorem dX11_leadRim_22 : decode cX11_leadRim 22 = .ok (.bipush 48, 2) := by decide +kernel
theorem dX11_leadRim_24 : decode cX11_leadRim 24 = .ok (.iload_n 1, 1) := by decide +kernel
theorem dX11_leadRim_25 : decode cX11_leadRim 25 = .ok (.imul, 1) := by decide +kernel
theorem dX11_leadRim_26 : decode cX11_leadRim 26 = .ok (.iload_n 3, 1) := by decide +kernel
theorem dX11_leadRim_27 : decode cX11_leadRim 27 = .ok (.iadd, 1) := by decide +kernel
theorem dX11_leadRim_28 : decode cX11_leadRim 28 = .ok (.iaload, 1) := by decide +kernel
theorem dX11_leadRim_29 : decode cX11_leadRim 29 = .ok (.isub, 1) := by decide +kernel
theorem dX11_leadRim_30 : decode cX11_leadRim 30 = .ok (.istore 4, 2) := by decide +kernel
theorem dX11_leadRim_32 : decode cX11_leadRim 32 = .ok (.iload 4, 2) := by decide +kernel
theorem dX11_leadRim_34 : decode cX11_leadRim 34 = .ok (.ifCond .ge 7, 3) := by decide +kernel
theorem dX11_leadRim_37 : decode cX11_leadRim 37 = .ok (.iconst 0, 1) := by decide +kernel
theorem dX11_leadRim_38 : decode cX11_leadRim 38 = .ok (.goto 17, 3) := by decide +kernel
theorem dX11_leadRim_41 : decode cX11_leadRim 41 = .ok (.iload 4, 2) := by decide +kernel
theorem dX11_leadRim_43 : decode cX11_leadRim 43 = .ok (.ldc 195, 2) := by decide +kernel
theorem dX11_leadRim_45 : decode cX11_leadRim 45 = .ok (.if_icmp .le 8, 3) := by decide +kernel
theorem dX11_leadRim_48 : decode cX11_leadRim 48 = .ok (.ldc 195, 2) := by decide +kernel
theorem dX11_leadRim_50 : decode cX11_leadRim 50 = .ok (.goto 5, 3) := by decide +kernel
theorem dX11_leadRim_53 : decode cX11_leadRim 53 = .ok (.iload 4, 2) := by decide +kernel
theorem dX11_leadRim_55 : decode cX11_leadRim 55 = .ok (.istore 4, 2) := by decide +kernel
theorem dX11_leadRim_57 : decode cX11_leadRim 57 = .ok (.aload_n 0, 1) := by decide +kernel
theorem dX11_leadRim_58 : decode cX11_leadRim 58 = .ok (.getfield 65, 3) := by decide +kernel
theorem dX11_leadRim_61 : decode cX11_leadRim 61 = .ok (.iload_n 1, 1) := by decide +kernel
theorem dX11_leadRim_62 : decode cX11_leadRim 62 = .ok (.dup2, 1) := by decide +kernel
theorem dX11_leadRim_63 : decode cX11_leadRim 63 = .ok (.iaload, 1) := by decide +kernel
theorem dX11_leadRim_64 : decode cX11_leadRim 64 = .ok (.iload 4, 2) := by decide +kernel
theorem dX11_leadRim_66 : decode cX11_leadRim 66 = .ok (.aload_n 0, 1) := by decide +kernel
theorem dX11_leadRim_67 : decode cX11_leadRim 67 = .ok (.getfield 92, 3) := by decide +kernel
theorem dX11_leadRim_70 : decode cX11_leadRim 70 = .ok (.bipush 48, 2) := by decide +kernel
theorem dX11_leadRim_72 : decode cX11_leadRim 72 = .ok (.iload_n 1, 1) := by decide +kernel
theorem dX11_leadRim_73 : decode cX11_leadRim 73 = .ok (.imul, 1) := by decide +kernel
theorem dX11_leadRim_74 : decode cX11_leadRim 74 = .ok (.iload_n 3, 1) := by decide +kernel
theorem dX11_leadRim_75 : decode cX11_leadRim 75 = .ok (.iadd, 1) := by decide +kernel
theorem dX11_leadRim_76 : decode cX11_leadRim 76 = .ok (.iaload, 1) := by decide +kernel
theorem dX11_leadRim_77 : decode cX11_leadRim 77 = .ok (.isub, 1) := by decide +kernel
theorem dX11_leadRim_78 : decode cX11_leadRim 78 = .ok (.iadd, 1) := by decide +kernel
theorem dX11_leadRim_79 : decode cX11_leadRim 79 = .ok (.iastore, 1) := by decide +kernel
theorem dX11_leadRim_80 : decode cX11_leadRim 80 = .ok (.aload_n 0, 1) := by decide +kernel
theorem dX11_leadRim_81 : decode cX11_leadRim 81 = .ok (.getfield 92, 3) := by decide +kernel
theorem dX11_leadRim_84 : decode cX11_leadRim 84 = .ok (.bipush 48, 2) := by decide +kernel
theorem dX11_leadRim_86 : decode cX11_leadRim 86 = .ok (.iload_n 1, 1) := by decide +kernel
theorem dX11_leadRim_87 : decode cX11_leadRim 87 = .ok (.imul, 1) := by decide +kernel
theorem dX11_leadRim_88 : decode cX11_leadRim 88 = .ok (.iload_n 3, 1) := by decide +kernel
theorem dX11_leadRim_89 : decode cX11_leadRim 89 = .ok (.iadd, 1) := by decide +kernel
theorem dX11_leadRim_90 : decode cX11_leadRim 90 = .ok (.iload 4, 2) := by decide +kernel
theorem dX11_leadRim_92 : decode cX11_leadRim 92 = .ok (.iastore, 1) := by decide +kernel
theorem dX11_leadRim_93 : decode cX11_leadRim 93 = .ok (.iload_n 3, 1) := by decide +kernel
theorem dX11_leadRim_94 : decode cX11_leadRim 94 = .ok (.aload_n 0, 1) := by decide +kernel
theorem dX11_leadRim_95 : decode cX11_leadRim 95 = .ok (.getfield 41, 3) := by decide +kernel
theorem dX11_leadRim_98 : decode cX11_leadRim 98 = .ok (.iload_n 1, 1) := by decide +kernel
theorem dX11_leadRim_99 : decode cX11_leadRim 99 = .ok (.iaload, 1) := by decide +kernel
theorem dX11_leadRim_100 : decode cX11_leadRim 100 = .ok (.iadd, 1) := by decide +kernel
theorem dX11_leadRim_101 : decode cX11_leadRim 101 = .ok (.istore_n 3, 1) := by decide +kernel
theorem dX11_leadRim_102 : decode cX11_leadRim 102 = .ok (.goto (-94), 3) := by decide +kernel
theorem dX11_leadRim_105 : decode cX11_leadRim 105 = .ok (.return_, 1) := by decide +kernel
set_option maxRecDepth 20000 in
theorem ggX11_stepOnce_X11_pushAll : GoodIn wsX11_stepOnce wsX11_pushAll := goodIn_r _ [22, 23, 8, 9, 24, 25, 26, 21, 27, 28, 29, 30, 31, 32, 33, 34, 35, 36, 37, 38, 39, 40, 41, 42, 43, 44, 45, 7, 46, 47, 48, 49, 50, 51, 52, 53, 54, 55, 96, 97, 98, 99, 100, 101, 102, 103, 104, 105, 106, 107, 108, 109, 110, 111, 112, 113, 114, 115, 116, 117, 118, 119, 120, 121, 122, 123, 124, 125, 126, 127, 128, 129, 130, 131, 132, 133, 134, 135, 136, 137, 138, 139, 140, 141, 142, 143, 144, 145, 146, 147, 148, 149, 150, 151, 152, 153, 154, 155, 156, 157, 158, 159, 160, 161] (by decide +kernel) (by decide +kernel)
set_option maxRecDepth 20000 in
theorem gX11_stepOnce_X11_pushAll : GoodIn wsX11_stepOnce (wsV RX11 262 RX11 yX11_pushAll wsX11_pushAll) := goodIn_app (goodIn_of _ (by decide +kernel)) ggX11_stepOnce_X11_pushAll
set_option maxRecDepth 20000 in
theorem ggX11_stepOnce_X11_carryAll : GoodIn wsX11_stepOnce wsX11_carryAll := goodIn_r _ [59, 2, 9, 11, 10, 8, 24, 25, 26, 21, 27, 28, 29, 30, 31, 32, 33, 34, 35, 36, 37, 38, 39, 40, 96, 97, 98, 99, 100, 101, 102, 103, 104, 105, 106, 107, 108, 109, 110, 111, 112, 113, 114, 115, 116, 117, 118, 119, 120, 121, 122, 123, 124, 125, 126, 127, 128, 129, 130, 131, 132, 133, 134, 135, 136, 137, 138, 139, 140, 141, 142, 143, 144, 145, 146, 147, 148, 149, 150, 151, 152, 153, 154, 155, 156, 157, 158, 159, 160, 161] (by decide +kernel) (by decide +kernel)
set_option maxRecDepth 20000 in
theorem gX11_stepOnce_X11_carryAll : GoodIn wsX11_stepOnce (wsV RX11 265 RX11 yX11_carryAll wsX11_carryAll) := goodIn_app (goodIn_of _ (by decide +kernel)) ggX11_stepOnce_X11_carryAll
set_option maxRecDepth 20000 in
theorem ggX11_stepOnce_X11_cells : GoodIn wsX11_stepOnce wsX11_cells := goodIn_r _ [27, 28, 29, 96, 97, 98, 99, 100, 101, 102, 103, 104, 105, 106, 107, 108, 109, 110, 111, 112, 113, 114, 115, 116, 117, 118, 119, 120, 121, 122, 123, 124, 125, 126, 127, 128, 129, 130, 131, 132, 133, 134, 135, 136, 137, 138, 139, 140, 141, 142, 143, 144, 145, 146, 147, 148, 149, 150, 151, 152, 153, 154, 155, 156, 157, 158, 159, 160, 161] (by decide +kernel) (by decide +kernel)
set_option maxRecDepth 20000 in
theorem gX11_stepOnce_X11_cells : GoodIn wsX11_stepOnce (wsV RX11 223 RX11 yX11_cells wsX11_cells) := goodIn_app (goodIn_of _ (by decide +kernel)) ggX11_stepOnce_X11_cells
set_option maxRecDepth 20000 in
theorem ggX11_stepOnce_X11_hasTide : GoodIn wsX11_stepOnce wsX11_hasTide := goodIn_r _ [63, 64, 65, 66, 67, 68, 21, 69, 47, 96, 97, 98, 99, 100, 101, 102, 103, 104, 105, 106, 107, 108, 109, 110, 111, 112, 113, 114, 115, 116, 117, 118, 119, 120, 121, 122, 123, 124, 125, 126, 127, 128, 129, 130, 131, 132, 133, 134, 135, 136, 137, 138, 139, 140, 141, 142, 143, 144, 145, 146, 147, 148, 149, 150, 151, 152, 153, 154, 155, 156, 157, 158, 159, 160, 161] (by decide +kernel) (by decide +kernel)
set_option maxRecDepth 20000 in
theorem gX11_stepOnce_X11_hasTide : GoodIn wsX11_stepOnce (wsV RX11 268 RX11 yX11_hasTide wsX11_hasTide) := goodIn_app (goodIn_of _ (by decide +kernel)) ggX11_stepOnce_X11_hasTide
set_option maxRecDepth 20000 in
theorem ggX11_stepOnce_X11_leadRim : GoodIn wsX11_stepOnce wsX11_leadRim := goodIn_r _ [73, 51, 5, 74, 9, 28, 75, 76, 77, 21, 78, 64, 79, 15, 65, 80, 24, 25, 26, 27, 29, 96, 97, 98, 99, 100, 101, 102, 103, 104, 105, 106, 107, 108, 109, 110, 111, 112, 113, 114, 115, 116, 117, 118, 119, 120, 121, 122, 123, 124, 125, 126, 127, 128, 129, 130, 131, 132, 133, 134, 135, 136, 137, 138, 139, 140, 141, 142, 143, 144, 145, 146, 147, 148, 149, 150, 151, 152, 153, 154, 155, 156, 157, 158, 159, 160, 161] (by decide +kernel) (by decide +kernel)
set_option maxRecDepth 20000 in
theorem gX11_stepOnce_X11_leadRim : GoodIn wsX11_stepOnce (wsV RX11 271 RX11 yX11_leadRim wsX11_leadRim) := goodIn_app (goodIn_of _ (by decide +kernel)) ggX11_stepOnce_X11_leadRim
set_option maxRecDepth 20000 in
theorem ggX11_stepOnce_X11_drifts : GoodIn wsX11_stepOnce wsX11_drifts := goodIn_r _ [84, 28, 85, 86, 87, 21, 88, 7, 30, 31, 32, 33, 34, 35, 36, 37, 24, 25, 26, 27, 29, 38, 39, 40, 96, 97, 98, 99, 100, 101, 102, 103, 104, 105, 106, 107, 108, 109, 110, 111, 112, 113, 114, 115, 116, 117, 118, 119, 120, 121, 122, 123, 124, 125, 126, 127, 128, 129, 130, 131, 132, 133, 134, 135, 136, 137, 138, 139, 140, 141, 142, 143, 144, 145, 146, 147, 148, 149, 150, 151, 152, 153, 154, 155, 156, 157, 158, 159, 160, 161] (by decide +kernel) (by decide +kernel)
set_option maxRecDepth 20000 in
theorem gX11_stepOnce_X11_drifts : GoodIn wsX11_stepOnce (wsV RX11 274 RX11 yX11_drifts wsX11_drifts) := goodIn_app (goodIn_of _ (by decide +kernel)) ggX11_stepOnce_X11_drifts
set_option maxRecDepth 20000 in
theorem ggX11_stepOnce_X11_level : GoodIn wsX11_stepOnce wsX11_level := goodIn_r _ [55, 51, 9, 96, 97, 98, 99, 100, 101, 102, 103, 104, 105, 106, 107, 108, 109, 110, 111, 112, 113, 114, 115, 116, 117, 118, 119, 120, 121, 122, 123, 124, 125, 126, 127, 128, 129, 130, 131, 132, 133, 134, 135, 136, 137, 138, 139, 140, 141, 142, 143, 144, 145, 146, 147, 148, 149, 150, 151, 152, 153, 154, 155, 156, 157, 158, 159, 160, 161] (by decide +kernel) (by decide +kernel)
set_option maxRecDepth 20000 in
theorem gX11_stepOnce_X11_level : GoodIn wsX11_stepOnce (wsV RX11 243 RX11 yX11_level wsX11_level) := goodIn_app (goodIn_of _ (by decide +kernel)) ggX11_stepOnce_X11_level
set_option maxRecDepth 20000 in
theorem ggX11_stepOnce_X11_write : GoodIn wsX11_stepOnce wsX11_write := goodIn_r _ [92, 93, 94, 95, 96, 97, 98, 99, 100, 101, 102, 103, 104, 105, 106, 107, 108, 109, 110, 111, 112, 113, 114, 115, 116, 117, 118, 119, 120, 121, 122, 123, 124, 125, 126, 127, 128, 129, 130, 131, 132, 133, 134, 135, 136, 137, 138, 139, 140, 141, 142, 143, 144, 145, 146, 147, 148, 149, 150, 151, 152, 153, 154, 155, 156, 157, 158, 159, 160, 161] (by decide +kernel) (by decide +kernel)
set_option maxRecDepth 20000 in
theorem gX11_stepOnce_X11_write : GoodIn wsX11_stepOnce (wsV RX11 277 RX11 yX11_write wsX11_write) := goodIn_app (goodIn_of _ (by decide +kernel)) ggX11_stepOnce_X11_write
theorem dX11_stepOnce_0 : decode cX11_stepOnce 0 = .ok (.aload_n 0, 1) := by decide +kernel
theorem dX11_stepOnce_1 : decode cX11_stepOnce 1 = .ok (.iload_n 1, 1) := by decide +kernel
theorem dX11_stepOnce_2 : decode cX11_stepOnce 2 = .ok (.invokevirtual 262, 3) := by decide +kernel
theorem dX11_stepOnce_5 : decode cX11_stepOnce 5 = .ok (.aload_n 0, 1) := by decide +kernel
theorem dX11_stepOnce_6 : decode cX11_stepOnce 6 = .ok (.iload_n 1, 1) := by decide +kernel
theorem dX11_stepOnce_7 : decode cX11_stepOnce 7 = .ok (.invokevirtual 265, 3) := by decide +kernel
theorem dX11_stepOnce_10 : decode cX11_stepOnce 10 = .ok (.iconst 0, 1) := by decide +kernel
theorem dX11_stepOnce_11 : decode cX11_stepOnce 11 = .ok (.istore_n 2, 1) := by decide +kernel
theorem dX11_stepOnce_12 : decode cX11_stepOnce 12 = .ok (.iconst 0, 1) := by decide +kernel
theorem dX11_stepOnce_13 : decode cX11_stepOnce 13 = .ok (.istore_n 3, 1) := by decide +kernel
theorem dX11_stepOnce_14 : decode cX11_stepOnce 14 = .ok (.iload_n 3, 1) := by decide +kernel
theorem dX11_stepOnce_15 : decode cX11_stepOnce 15 = .ok (.aload_n 0, 1) := by decide +kernel
theorem dX11_stepOnce_16 : decode cX11_stepOnce 16 = .ok (.getfield 74, 3) := by decide +kernel
theorem dX11_stepOnce_19 : decode cX11_stepOnce 19 = .ok (.iload_n 1, 1) := by decide +kernel
theorem dX11_stepOnce_20 : decode cX11_stepOnce 20 = .ok (.iaload, 1) := by decide +kernel
theorem dX11_stepOnce_21 : decode cX11_stepOnce 21 = .ok (.if_icmp .ge 50, 3) := by decide +kernel
theorem dX11_stepOnce_24 : decode cX11_stepOnce 24 = .ok (.aload_n 0, 1) := by decide +kernel
theorem dX11_stepOnce_25 : decode cX11_stepOnce 25 = .ok (.getfield 126, 3) := by decide +kernel
theorem dX11_stepOnce_28 : decode cX11_stepOnce 28 = .ok (.aload_n 0, 1) := by decide +kernel
theorem dX11_stepOnce_29 : decode cX11_stepOnce 29 = .ok (.getfield 77, 3) := by decide +kernel
theorem dX11_stepOnce_32 : decode cX11_stepOnce 32 = .ok (.iconst 4, 1) := by decide +kernel
theorem dX11_stepOnce_33 : decode cX11_stepOnce 33 = .ok (.iload_n 1, 1) := by decide +kernel
theorem dX11_stepOnce_34 : decode cX11_stepOnce 34 = .ok (.imul, 1) := by decide +kernel
theorem dX11_stepOnce_35 : decode cX11_stepOnce 35 = .ok (.iload_n 3, 1) := by decide +kernel
theorem dX11_stepOnce_36 : decode cX11_stepOnce 36 = .ok (.iadd, 1) := by decide +kernel
theorem dX11_stepOnce_37 : decode cX11_stepOnce 37 = .ok (.iaload, 1) := by decide +kernel
theorem dX11_stepOnce_38 : decode cX11_stepOnce 38 = .ok (.dup2, 1) := by decide +kernel
theorem dX11_stepOnce_39 : decode cX11_stepOnce 39 = .ok (.iaload, 1) := by decide +kernel
theorem dX11_stepOnce_40 : decode cX11_stepOnce 40 = .ok (.aload_n 0, 1) := by decide +kernel
theorem dX11_stepOnce_41 : decode cX11_stepOnce 41 = .ok (.getfield 80, 3) := by decide +kernel
theorem dX11_stepOnce_44 : decode cX11_stepOnce 44 = .ok (.iconst 4, 1) := by decide +kernel
theorem dX11_stepOnce_45 : decode cX11_stepOnce 45 = .ok (.iload_n 1, 1) := by decide +kernel
theorem dX11_stepOnce_46 : decode cX11_stepOnce 46 = .ok (.imul, 1) := by decide +kernel
theorem dX11_stepOnce_47 : decode cX11_stepOnce 47 = .ok (.iload_n 3, 1) := by decide +kernel
theorem dX11_stepOnce_48 : decode cX11_stepOnce 48 = .ok (.iadd, 1) := by decide +kernel
theorem dX11_stepOnce_49 : decode cX11_stepOnce 49 = .ok (.iaload, 1) := by decide +kernel
theorem dX11_stepOnce_50 : decode cX11_stepOnce 50 = .ok (.iadd, 1) := by decide +kernel
theorem dX11_stepOnce_51 : decode cX11_stepOnce 51 = .ok (.iastore, 1) := by decide +kernel
theorem dX11_stepOnce_52 : decode cX11_stepOnce 52 = .ok (.iload_n 2, 1) := by decide +kernel
theorem dX11_stepOnce_53 : decode cX11_stepOnce 53 = .ok (.aload_n 0, 1) := by decide +kernel
theorem dX11_stepOnce_54 : decode cX11_stepOnce 54 = .ok (.getfield 80, 3) := by decide +kernel
theorem dX11_stepOnce_57 : decode cX11_stepOnce 57 = .ok (.iconst 4, 1) := by decide +kernel
theorem dX11_stepOnce_58 : decode cX11_stepOnce 58 = .ok (.iload_n 1, 1) := by decide +kernel
theorem dX11_stepOnce_59 : decode cX11_stepOnce 59 = .ok (.imul, 1) := by decide +kernel
theorem dX11_stepOnce_60 : decode cX11_stepOnce 60 = .ok (.iload_n 3, 1) := by decide +kernel
theorem dX11_stepOnce_61 : decode cX11_stepOnce 61 = .ok (.iadd, 1) := by decide +kernel
theorem dX11_stepOnce_62 : decode cX11_stepOnce 62 = .ok (.iaload, 1) := by decide +kernel
theorem dX11_stepOnce_63 : decode cX11_stepOnce 63 = .ok (.iadd, 1) := by decide +kernel
theorem dX11_stepOnce_64 : decode cX11_stepOnce 64 = .ok (.istore_n 2, 1) := by decide +kernel
theorem dX11_stepOnce_65 : decode cX11_stepOnce 65 = .ok (.iinc 3 1, 3) := by decide +kernel
theorem dX11_stepOnce_68 : decode cX11_stepOnce 68 = .ok (.goto (-54), 3) := by decide +kernel
theorem dX11_stepOnce_71 : decode cX11_stepOnce 71 = .ok (.iconst 0, 1) := by decide +kernel
theorem dX11_stepOnce_72 : decode cX11_stepOnce 72 = .ok (.istore_n 3, 1) := by decide +kernel
theorem dX11_stepOnce_73 : decode cX11_stepOnce 73 = .ok (.iload_n 3, 1) := by decide +kernel
theorem dX11_stepOnce_74 : decode cX11_stepOnce 74 = .ok (.aload_n 0, 1) := by decide +kernel
theorem dX11_stepOnce_75 : decode cX11_stepOnce 75 = .ok (.iload_n 1, 1) := by decide +kernel
theorem dX11_stepOnce_76 : decode cX11_stepOnce 76 = .ok (.invokevirtual 223, 3) := by decide +kernel
theorem dX11_stepOnce_79 : decode cX11_stepOnce 79 = .ok (.if_icmp .ge 22, 3) := by decide +kernel
theorem dX11_stepOnce_82 : decode cX11_stepOnce 82 = .ok (.aload_n 0, 1) := by decide +kernel
theorem dX11_stepOnce_83 : decode cX11_stepOnce 83 = .ok (.getfield 126, 3) := by decide +kernel
theorem dX11_stepOnce_86 : decode cX11_stepOnce 86 = .ok (.iload_n 3, 1) := by decide +kernel
theorem dX11_stepOnce_87 : decode cX11_stepOnce 87 = .ok (.iaload, 1) := by decide +kernel
theorem dX11_stepOnce_88 : decode cX11_stepOnce 88 = .ok (.ldc 195, 2) := by decide +kernel
theorem dX11_stepOnce_90 : decode cX11_stepOnce 90 = .ok (.if_icmp .le 5, 3) := by decide +kernel
theorem dX11_stepOnce_93 : decode cX11_stepOnce 93 = .ok (.iconst 0, 1) := by decide +kernel
theorem dX11_stepOnce_94 : decode cX11_stepOnce 94 = .ok (.ireturn, 1) := by decide +kernel
theorem dX11_stepOnce_95 : decode cX11_stepOnce 95 = .ok (.iinc 3 1, 3) := by decide +kernel
theorem dX11_stepOnce_98 : decode cX11_stepOnce 98 = .ok (.goto (-25), 3) := by decide +kernel
theorem dX11_stepOnce_101 : decode cX11_stepOnce 101 = .ok (.aload_n 0, 1) := by decide +kernel
theorem dX11_stepOnce_102 : decode cX11_stepOnce 102 = .ok (.getfield 62, 3) := by decide +kernel
theorem dX11_stepOnce_105 : decode cX11_stepOnce 105 = .ok (.iload_n 1, 1) := by decide +kernel
theorem dX11_stepOnce_106 : decode cX11_stepOnce 106 = .ok (.dup2, 1) := by decide +kernel
theorem dX11_stepOnce_107 : decode cX11_stepOnce 107 = .ok (.iaload, 1) := by decide +kernel
theorem dX11_stepOnce_108 : decode cX11_stepOnce 108 = .ok (.iload_n 2, 1) := by decide +kernel
theorem dX11_stepOnce_109 : decode cX11_stepOnce 109 = .ok (.iadd, 1) := by decide +kernel
theorem dX11_stepOnce_110 : decode cX11_stepOnce 110 = .ok (.iastore, 1) := by decide +kernel
theorem dX11_stepOnce_111 : decode cX11_stepOnce 111 = .ok (.iconst 0, 1) := by decide +kernel
theorem dX11_stepOnce_112 : decode cX11_stepOnce 112 = .ok (.istore_n 3, 1) := by decide +kernel
theorem dX11_stepOnce_113 : decode cX11_stepOnce 113 = .ok (.iload_n 3, 1) := by decide +kernel
theorem dX11_stepOnce_114 : decode cX11_stepOnce 114 = .ok (.iconst 2, 1) := by decide +kernel
theorem dX11_stepOnce_115 : decode cX11_stepOnce 115 = .ok (.aload_n 0, 1) := by decide +kernel
theorem dX11_stepOnce_116 : decode cX11_stepOnce 116 = .ok (.iload_n 1, 1) := by decide +kernel
theorem dX11_stepOnce_117 : decode cX11_stepOnce 117 = .ok (.invokevirtual 223, 3) := by decide +kernel
theorem dX11_stepOnce_120 : decode cX11_stepOnce 120 = .ok (.imul, 1) := by decide +kernel
theorem dX11_stepOnce_121 : decode cX11_stepOnce 121 = .ok (.if_icmp .ge 26, 3) := by decide +kernel
theorem dX11_stepOnce_124 : decode cX11_stepOnce 124 = .ok (.aload_n 0, 1) := by decide +kernel
theorem dX11_stepOnce_125 : decode cX11_stepOnce 125 = .ok (.getfield 98, 3) := by decide +kernel
theorem dX11_stepOnce_128 : decode cX11_stepOnce 128 = .ok (.bipush 96, 2) := by decide +kernel
theorem dX11_stepOnce_130 : decode cX11_stepOnce 130 = .ok (.iload_n 1, 1) := by decide +kernel
theorem dX11_stepOnce_131 : decode cX11_stepOnce 131 = .ok (.imul, 1) := by decide +kernel
theorem dX11_stepOnce_132 : decode cX11_stepOnce 132 = .ok (.iload_n 3, 1) := by decide +kernel
theorem dX11_stepOnce_133 : decode cX11_stepOnce 133 = .ok (.iadd, 1) := by decide +kernel
theorem dX11_stepOnce_134 : decode cX11_stepOnce 134 = .ok (.aload_n 0, 1) := by decide +kernel
theorem dX11_stepOnce_135 : decode cX11_stepOnce 135 = .ok (.getfield 120, 3) := by decide +kernel
theorem dX11_stepOnce_138 : decode cX11_stepOnce 138 = .ok (.iload_n 3, 1) := by decide +kernel
theorem dX11_stepOnce_139 : decode cX11_stepOnce 139 = .ok (.iaload, 1) := by decide +kernel
theorem dX11_stepOnce_140 : decode cX11_stepOnce 140 = .ok (.iastore, 1) := by decide +kernel
theorem dX11_stepOnce_141 : decode cX11_stepOnce 141 = .ok (.iinc 3 1, 3) := by decide +kernel
theorem dX11_stepOnce_144 : decode cX11_stepOnce 144 = .ok (.goto (-31), 3) := by decide +kernel
theorem dX11_stepOnce_147 : decode cX11_stepOnce 147 = .ok (.iconst 0, 1) := by decide +kernel
theorem dX11_stepOnce_148 : decode cX11_stepOnce 148 = .ok (.istore_n 3, 1) := by decide +kernel
theorem dX11_stepOnce_149 : decode cX11_stepOnce 149 = .ok (.iload_n 3, 1) := by decide +kernel
theorem dX11_stepOnce_150 : decode cX11_stepOnce 150 = .ok (.aload_n 0, 1) := by decide +kernel
theorem dX11_stepOnce_151 : decode cX11_stepOnce 151 = .ok (.iload_n 1, 1) := by decide +kernel
theorem dX11_stepOnce_152 : decode cX11_stepOnce 152 = .ok (.invokevirtual 223, 3) := by decide +kernel
theorem dX11_stepOnce_155 : decode cX11_stepOnce 155 = .ok (.if_icmp .ge 71, 3) := by decide +kernel
theorem dX11_stepOnce_158 : decode cX11_stepOnce 158 = .ok (.aload_n 0, 1) := by decide +kernel
theorem dX11_stepOnce_159 : decode cX11_stepOnce 159 = .ok (.getfield 92, 3) := by decide +kernel
theorem dX11_stepOnce_162 : decode cX11_stepOnce 162 = .ok (.bipush 48, 2) := by decide +kernel
theorem dX11_stepOnce_164 : decode cX11_stepOnce 164 = .ok (.iload_n 1, 1) := by decide +kernel
theorem dX11_stepOnce_165 : decode cX11_stepOnce 165 = .ok (.imul, 1) := by decide +kernel
theorem dX11_stepOnce_166 : decode cX11_stepOnce 166 = .ok (.iload_n 3, 1) := by decide +kernel
theorem dX11_stepOnce_167 : decode cX11_stepOnce 167 = .ok (.iadd, 1) := by decide +kernel
theorem dX11_stepOnce_168 : decode cX11_stepOnce 168 = .ok (.aload_n 0, 1) := by decide +kernel
theorem dX11_stepOnce_169 : decode cX11_stepOnce 169 = .ok (.getfield 126, 3) := by decide +kernel
theorem dX11_stepOnce_172 : decode cX11_stepOnce 172 = .ok (.iload_n 3, 1) := by decide +kernel
theorem dX11_stepOnce_173 : decode cX11_stepOnce 173 = .ok (.iaload, 1) := by decide +kernel
theorem dX11_stepOnce_174 : decode cX11_stepOnce 174 = .ok (.iastore, 1) := by decide +kernel
theorem dX11_stepOnce_175 : decode cX11_stepOnce 175 = .ok (.iconst 0, 1) := by decide +kernel
theorem dX11_stepOnce_176 : decode cX11_stepOnce 176 = .ok (.istore 4, 2) := by decide +kernel
theorem dX11_stepOnce_178 : decode cX11_stepOnce 178 = .ok (.iload 4, 2) := by decide +kernel
theorem dX11_stepOnce_180 : decode cX11_stepOnce 180 = .ok (.iconst 3, 1) := by decide +kernel
theorem dX11_stepOnce_181 : decode cX11_stepOnce 181 = .ok (.if_icmp .ge 39, 3) := by decide +kernel
theorem dX11_stepOnce_184 : decode cX11_stepOnce 184 = .ok (.aload_n 0, 1) := by decide +kernel
theorem dX11_stepOnce_185 : decode cX11_stepOnce 185 = .ok (.getfield 95, 3) := by decide +kernel
theorem dX11_stepOnce_188 : decode cX11_stepOnce 188 = .ok (.sipush 144, 3) := by decide +kernel
theorem dX11_stepOnce_191 : decode cX11_stepOnce 191 = .ok (.iload_n 1, 1) := by decide +kernel
theorem dX11_stepOnce_192 : decode cX11_stepOnce 192 = .ok (.imul, 1) := by decide +kernel
theorem dX11_stepOnce_193 : decode cX11_stepOnce 193 = .ok (.bipush 48, 2) := by decide +kernel
theorem dX11_stepOnce_195 : decode cX11_stepOnce 195 = .ok (.iload 4, 2) := by decide +kernel
theorem dX11_stepOnce_197 : decode cX11_stepOnce 197 = .ok (.imul, 1) := by decide +kernel
theorem dX11_stepOnce_198 : decode cX11_stepOnce 198 = .ok (.iadd, 1) := by decide +kernel
theorem dX11_stepOnce_199 : decode cX11_stepOnce 199 = .ok (.iload_n 3, 1) := by decide +kernel
theorem dX11_stepOnce_200 : decode cX11_stepOnce 200 = .ok (.iadd, 1) := by decide +kernel
theorem dX11_stepOnce_201 : decode cX11_stepOnce 201 = .ok (.aload_n 0, 1) := by decide +kernel
theorem dX11_stepOnce_202 : decode cX11_stepOnce 202 = .ok (.getfield 129, 3) := by decide +kernel
theorem dX11_stepOnce_205 : decode cX11_stepOnce 205 = .ok (.bipush 48, 2) := by decide +kernel
theorem dX11_stepOnce_207 : decode cX11_stepOnce 207 = .ok (.iload 4, 2) := by decide +kernel
theorem dX11_stepOnce_209 : decode cX11_stepOnce 209 = .ok (.imul, 1) := by decide +kernel
theorem dX11_stepOnce_210 : decode cX11_stepOnce 210 = .ok (.iload_n 3, 1) := by decide +kernel
theorem dX11_stepOnce_211 : decode cX11_stepOnce 211 = .ok (.iadd, 1) := by decide +kernel
theorem dX11_stepOnce_212 : decode cX11_stepOnce 212 = .ok (.iaload, 1) := by decide +kernel
theorem dX11_stepOnce_213 : decode cX11_stepOnce 213 = .ok (.iastore, 1) := by decide +kernel
theorem dX11_stepOnce_214 : decode cX11_stepOnce 214 = .ok (.iinc 4 1, 3) := by decide +kernel
theorem dX11_stepOnce_217 : decode cX11_stepOnce 217 = .ok (.goto (-39), 3) := by decide +kernel
theorem dX11_stepOnce_220 : decode cX11_stepOnce 220 = .ok (.iinc 3 1, 3) := by decide +kernel
theorem dX11_stepOnce_223 : decode cX11_stepOnce 223 = .ok (.goto (-74), 3) := by decide +kernel
theorem dX11_stepOnce_226 : decode cX11_stepOnce 226 = .ok (.aload_n 0, 1) := by decide +kernel
theorem dX11_stepOnce_227 : decode cX11_stepOnce 227 = .ok (.iload_n 1, 1) := by decide +kernel
theorem dX11_stepOnce_228 : decode cX11_stepOnce 228 = .ok (.invokevirtual 268, 3) := by decide +kernel
theorem dX11_stepOnce_231 : decode cX11_stepOnce 231 = .ok (.ifCond .eq 8, 3) := by decide +kernel
theorem dX11_stepOnce_234 : decode cX11_stepOnce 234 = .ok (.aload_n 0, 1) := by decide +kernel
theorem dX11_stepOnce_235 : decode cX11_stepOnce 235 = .ok (.iload_n 1, 1) := by decide +kernel
theorem dX11_stepOnce_236 : decode cX11_stepOnce 236 = .ok (.invokevirtual 271, 3) := by decide +kernel
theorem dX11_stepOnce_239 : decode cX11_stepOnce 239 = .ok (.iconst 0, 1) := by decide +kernel
theorem dX11_stepOnce_240 : decode cX11_stepOnce 240 = .ok (.istore_n 3, 1) := by decide +kernel
theorem dX11_stepOnce_241 : decode cX11_stepOnce 241 = .ok (.iload_n 3, 1) := by decide +kernel
theorem dX11_stepOnce_242 : decode cX11_stepOnce 242 = .ok (.bipush 8, 2) := by decide +kernel
theorem dX11_stepOnce_244 : decode cX11_stepOnce 244 = .ok (.if_icmp .ge 42, 3) := by decide +kernel
theorem dX11_stepOnce_247 : decode cX11_stepOnce 247 = .ok (.aload_n 0, 1) := by decide +kernel
theorem dX11_stepOnce_248 : decode cX11_stepOnce 248 = .ok (.getfield 132, 3) := by decide +kernel
theorem dX11_stepOnce_251 : decode cX11_stepOnce 251 = .ok (.iload_n 3, 1) := by decide +kernel
theorem dX11_stepOnce_252 : decode cX11_stepOnce 252 = .ok (.iaload, 1) := by decide +kernel
theorem dX11_stepOnce_253 : decode cX11_stepOnce 253 = .ok (.iload_n 1, 1) := by decide +kernel
theorem dX11_stepOnce_254 : decode cX11_stepOnce 254 = .ok (.if_icmp .ne 26, 3) := by decide +kernel
theorem dX11_stepOnce_257 : decode cX11_stepOnce 257 = .ok (.aload_n 0, 1) := by decide +kernel
theorem dX11_stepOnce_258 : decode cX11_stepOnce 258 = .ok (.getfield 135, 3) := by decide +kernel
theorem dX11_stepOnce_261 : decode cX11_stepOnce 261 = .ok (.iload_n 3, 1) := by decide +kernel
theorem dX11_stepOnce_262 : decode cX11_stepOnce 262 = .ok (.aload_n 0, 1) := by decide +kernel
theorem dX11_stepOnce_263 : decode cX11_stepOnce 263 = .ok (.iload_n 1, 1) := by decide +kernel
theorem dX11_stepOnce_264 : decode cX11_stepOnce 264 = .ok (.aload_n 0, 1) := by decide +kernel
theorem dX11_stepOnce_265 : decode cX11_stepOnce 265 = .ok (.getfield 135, 3) := by decide +kernel
theorem dX11_stepOnce_268 : decode cX11_stepOnce 268 = .ok (.iload_n 3, 1) := by decide +kernel
theorem dX11_stepOnce_269 : decode cX11_stepOnce 269 = .ok (.iaload, 1) := by decide +kernel
theorem dX11_stepOnce_270 : decode cX11_stepOnce 270 = .ok (.aload_n 0, 1) := by decide +kernel
theorem dX11_stepOnce_271 : decode cX11_stepOnce 271 = .ok (.getfield 138, 3) := by decide +kernel
theorem dX11_stepOnce_274 : decode cX11_stepOnce 274 = .ok (.iload_n 3, 1) := by decide +kernel
theorem dX11_stepOnce_275 : decode cX11_stepOnce 275 = .ok (.iaload, 1) := by decide +kernel
theorem dX11_stepOnce_276 : decode cX11_stepOnce 276 = .ok (.invokevirtual 274, 3) := by decide +kernel
theorem dX11_stepOnce_279 : decode cX11_stepOnce 279 = .ok (.iastore, 1) := by decide +kernel
theorem dX11_stepOnce_280 : decode cX11_stepOnce 280 = .ok (.iinc 3 1, 3) := by decide +kernel
theorem dX11_stepOnce_283 : decode cX11_stepOnce 283 = .ok (.goto (-42), 3) := by decide +kernel
theorem dX11_stepOnce_286 : decode cX11_stepOnce 286 = .ok (.aload_n 0, 1) := by decide +kernel
theorem dX11_stepOnce_287 : decode cX11_stepOnce 287 = .ok (.getfield 59, 3) := by decide +kernel
theorem dX11_stepOnce_290 : decode cX11_stepOnce 290 = .ok (.iload_n 1, 1) := by decide +kernel
theorem dX11_stepOnce_291 : decode cX11_stepOnce 291 = .ok (.dup2, 1) := by decide +kernel
theorem dX11_stepOnce_292 : decode cX11_stepOnce 292 = .ok (.iaload, 1) := by decide +kernel
theorem dX11_stepOnce_293 : decode cX11_stepOnce 293 = .ok (.iconst 1, 1) := by decide +kernel
theorem dX11_stepOnce_294 : decode cX11_stepOnce 294 = .ok (.iadd, 1) := by decide +kernel
theorem dX11_stepOnce_295 : decode cX11_stepOnce 295 = .ok (.iastore, 1) := by decide +kernel
theorem dX11_stepOnce_296 : decode cX11_stepOnce 296 = .ok (.iconst 0, 1) := by decide +kernel
theorem dX11_stepOnce_297 : decode cX11_stepOnce 297 = .ok (.istore_n 3, 1) := by decide +kernel
theorem dX11_stepOnce_298 : decode cX11_stepOnce 298 = .ok (.iload_n 3, 1) := by decide +kernel
theorem dX11_stepOnce_299 : decode cX11_stepOnce 299 = .ok (.bipush 8, 2) := by decide +kernel
theorem dX11_stepOnce_301 : decode cX11_stepOnce 301 = .ok (.if_icmp .ge 35, 3) := by decide +kernel
theorem dX11_stepOnce_304 : decode cX11_stepOnce 304 = .ok (.aload_n 0, 1) := by decide +kernel
theorem dX11_stepOnce_305 : decode cX11_stepOnce 305 = .ok (.getfield 141, 3) := by decide +kernel
theorem dX11_stepOnce_308 : decode cX11_stepOnce 308 = .ok (.iload_n 3, 1) := by decide +kernel
theorem dX11_stepOnce_309 : decode cX11_stepOnce 309 = .ok (.iaload, 1) := by decide +kernel
theorem dX11_stepOnce_310 : decode cX11_stepOnce 310 = .ok (.iload_n 1, 1) := by decide +kernel
theorem dX11_stepOnce_311 : decode cX11_stepOnce 311 = .ok (.if_icmp .ne 19, 3) := by decide +kernel
theorem dX11_stepOnce_314 : decode cX11_stepOnce 314 = .ok (.aload_n 0, 1) := by decide +kernel
theorem dX11_stepOnce_315 : decode cX11_stepOnce 315 = .ok (.iload_n 3, 1) := by decide +kernel
theorem dX11_stepOnce_316 : decode cX11_stepOnce 316 = .ok (.aload_n 0, 1) := by decide +kernel
theorem dX11_stepOnce_317 : decode cX11_stepOnce 317 = .ok (.iload_n 1, 1) := by decide +kernel
theorem dX11_stepOnce_318 : decode cX11_stepOnce 318 = .ok (.aload_n 0, 1) := by decide +kernel
theorem dX11_stepOnce_319 : decode cX11_stepOnce 319 = .ok (.getfield 144, 3) := by decide +kernel
theorem dX11_stepOnce_322 : decode cX11_stepOnce 322 = .ok (.iload_n 3, 1) := by decide +kernel
theorem dX11_stepOnce_323 : decode cX11_stepOnce 323 = .ok (.iaload, 1) := by decide +kernel
theorem dX11_stepOnce_324 : decode cX11_stepOnce 324 = .ok (.invokevirtual 243, 3) := by decide +kernel
theorem dX11_stepOnce_327 : decode cX11_stepOnce 327 = .ok (.invokevirtual 277, 3) := by decide +kernel
theorem dX11_stepOnce_330 : decode cX11_stepOnce 330 = .ok (.iinc 3 1, 3) := by decide +kernel
theorem dX11_stepOnce_333 : decode cX11_stepOnce 333 = .ok (.goto (-35), 3) := by decide +kernel
theorem dX11_stepOnce_336 : decode cX11_stepOnce 336 = .ok (.iconst 1, 1) := by decide +kernel
theorem dX11_stepOnce_337 : decode cX11_stepOnce 337 = .ok (.ireturn, 1) := by decide +kernel
set_option maxRecDepth 20000 in
theorem ggX11_leading_X11_beyond : GoodIn wsX11_leading wsX11_beyond := goodIn_r _ [7, 1, 8, 9, 10, 6, 11, 12, 13, 14, 15, 16, 17, 18, 19, 20, 21, 22, 23, 24, 25, 26, 27, 28, 29, 30, 31, 32, 33, 34, 35, 36, 37, 38, 39, 40, 41, 42, 43, 44, 45, 46, 47, 48, 49, 50, 51, 52, 53, 54, 55, 56, 57, 58, 59, 60, 61, 62, 63, 64, 65, 66, 67, 68, 69, 70, 71, 72, 73, 74, 75, 76, 77, 78, 79, 80, 81, 82, 83, 84, 85] (by decide +kernel) (by decide +kernel)
set_option maxRecDepth 20000 in
theorem gX11_leading_X11_beyond : GoodIn wsX11_leading (wsV RX11 246 RX11 yX11_beyond wsX11_beyond) := goodIn_app (goodIn_of _ (by decide +kernel)) ggX11_leading_X11_beyond
theorem dX11_leading_0 : decode cX11_leading 0 = .ok (.iload_n 2, 1) := by decide +kernel
theorem dX11_leading_1 : decode cX11_leading 1 = .ok (.aload_n 0, 1) := by decide +kernel
theorem dX11_leading_2 : decode cX11_leading 2 = .ok (.getfield 41, 3) := by decide +kernel
theorem dX11_leading_5 : decode cX11_leading 5 = .ok (.iload_n 1, 1) := by decide +kernel
theorem dX11_leading_6 : decode cX11_leading 6 = .ok (.iaload, 1) := by decide +kernel
theorem dX11_leading_7 : decode cX11_leading 7 = .ok (.irem, 1) := by decide +kernel
theorem dX11_leading_8 : decode cX11_leading 8 = .ok (.istore 4, 2) := by decide +kernel
theorem dX11_leading_10 : decode cX11_leading 10 = .ok (.iload_n 3, 1) := by decide +kernel
theorem dX11_leading_11 : decode cX11_leading 11 = .ok (.iconst 2, 1) := by decide +kernel
theorem dX11_leading_12 : decode cX11_leading 12 = .ok (.if_icmp .ge 36, 3) := by decide +kernel
theorem dX11_leading_15 : decode cX11_leading 15 = .ok (.aload_n 0, 1) := by decide +kernel
theorem dX11_leading_16 : decode cX11_leading 16 = .ok (.iload_n 1, 1) := by decide +kernel
theorem dX11_leading_17 : decode cX11_leading 17 = .ok (.iconst 2, 1) := by decide +kernel
theorem dX11_leading_18 : decode cX11_leading 18 = .ok (.iload_n 2, 1) := by decide +kernel
theorem dX11_leading_19 : decode cX11_leading 19 = .ok (.imul, 1) := by decide +kernel
theorem dX11_leading_20 : decode cX11_leading 20 = .ok (.iload_n 3, 1) := by decide +kernel
theorem dX11_leading_21 : decode cX11_leading 21 = .ok (.iadd, 1) := by decide +kernel
theorem dX11_leading_22 : decode cX11_leading 22 = .ok (.invokevirtual 246, 3) := by decide +kernel
theorem dX11_leading_25 : decode cX11_leading 25 = .ok (.ifCond .ge 7, 3) := by decide +kernel
theorem dX11_leading_28 : decode cX11_leading 28 = .ok (.iconst 0, 1) := by decide +kernel
theorem dX11_leading_29 : decode cX11_leading 29 = .ok (.goto 18, 3) := by decide +kernel
theorem dX11_leading_32 : decode cX11_leading 32 = .ok (.aload_n 0, 1) := by decide +kernel
theorem dX11_leading_33 : decode cX11_leading 33 = .ok (.getfield 98, 3) := by decide +kernel
theorem dX11_leading_36 : decode cX11_leading 36 = .ok (.bipush 96, 2) := by decide +kernel
theorem dX11_leading_38 : decode cX11_leading 38 = .ok (.iload_n 1, 1) := by decide +kernel
theorem dX11_leading_39 : decode cX11_leading 39 = .ok (.imul, 1) := by decide +kernel
theorem dX11_leading_40 : decode cX11_leading 40 = .ok (.iconst 2, 1) := by decide +kernel
theorem dX11_leading_41 : decode cX11_leading 41 = .ok (.iload_n 2, 1) := by decide +kernel
theorem dX11_leading_42 : decode cX11_leading 42 = .ok (.imul, 1) := by decide +kernel
theorem dX11_leading_43 : decode cX11_leading 43 = .ok (.iadd, 1) := by decide +kernel
theorem dX11_leading_44 : decode cX11_leading 44 = .ok (.iload_n 3, 1) := by decide +kernel
theorem dX11_leading_45 : decode cX11_leading 45 = .ok (.iadd, 1) := by decide +kernel
theorem dX11_leading_46 : decode cX11_leading 46 = .ok (.iaload, 1) := by decide +kernel
theorem dX11_leading_47 : decode cX11_leading 47 = .ok (.ireturn, 1) := by decide +kernel
theorem dX11_leading_48 : decode cX11_leading 48 = .ok (.iload_n 3, 1) := by decide +kernel
theorem dX11_leading_49 : decode cX11_leading 49 = .ok (.iconst 2, 1) := by decide +kernel
theorem dX11_leading_50 : decode cX11_leading 50 = .ok (.if_icmp .ne 19, 3) := by decide +kernel
theorem dX11_leading_53 : decode cX11_leading 53 = .ok (.iload 4, 2) := by decide +kernel
theorem dX11_leading_55 : decode cX11_leading 55 = .ok (.ifCond .le 9, 3) := by decide +kernel
theorem dX11_leading_58 : decode cX11_leading 58 = .ok (.iload_n 2, 1) := by decide +kernel
theorem dX11_leading_59 : decode cX11_leading 59 = .ok (.iconst 1, 1) := by decide +kernel
theorem dX11_leading_60 : decode cX11_leading 60 = .ok (.isub, 1) := by decide +kernel
theorem dX11_leading_61 : decode cX11_leading 61 = .ok (.goto 16, 3) := by decide +kernel
theorem dX11_leading_64 : decode cX11_leading 64 = .ok (.bipush (-9), 2) := by decide +kernel
theorem dX11_leading_66 : decode cX11_leading 66 = .ok (.goto 11, 3) := by decide +kernel
theorem dX11_leading_69 : decode cX11_leading 69 = .ok (.iload_n 2, 1) := by decide +kernel
theorem dX11_leading_70 : decode cX11_leading 70 = .ok (.aload_n 0, 1) := by decide +kernel
theorem dX11_leading_71 : decode cX11_leading 71 = .ok (.getfield 41, 3) := by decide +kernel
theorem dX11_leading_74 : decode cX11_leading 74 = .ok (.iload_n 1, 1) := by decide +kernel
theorem dX11_leading_75 : decode cX11_leading 75 = .ok (.iaload, 1) := by decide +kernel
theorem dX11_leading_76 : decode cX11_leading 76 = .ok (.isub, 1) := by decide +kernel
theorem dX11_leading_77 : decode cX11_leading 77 = .ok (.istore 5, 2) := by decide +kernel
theorem dX11_leading_79 : decode cX11_leading 79 = .ok (.iload 5, 2) := by decide +kernel
theorem dX11_leading_81 : decode cX11_leading 81 = .ok (.ifCond .ge 7, 3) := by decide +kernel
theorem dX11_leading_84 : decode cX11_leading 84 = .ok (.iconst 0, 1) := by decide +kernel
theorem dX11_leading_85 : decode cX11_leading 85 = .ok (.goto 22, 3) := by decide +kernel
theorem dX11_leading_88 : decode cX11_leading 88 = .ok (.aload_n 0, 1) := by decide +kernel
theorem dX11_leading_89 : decode cX11_leading 89 = .ok (.getfield 98, 3) := by decide +kernel
theorem dX11_leading_92 : decode cX11_leading 92 = .ok (.bipush 96, 2) := by decide +kernel
theorem dX11_leading_94 : decode cX11_leading 94 = .ok (.iload_n 1, 1) := by decide +kernel
theorem dX11_leading_95 : decode cX11_leading 95 = .ok (.imul, 1) := by decide +kernel
theorem dX11_leading_96 : decode cX11_leading 96 = .ok (.iconst 2, 1) := by decide +kernel
theorem dX11_leading_97 : decode cX11_leading 97 = .ok (.iload 5, 2) := by decide +kernel
theorem dX11_leading_99 : decode cX11_leading 99 = .ok (.imul, 1) := by decide +kernel
theorem dX11_leading_100 : decode cX11_leading 100 = .ok (.iadd, 1) := by decide +kernel
theorem dX11_leading_101 : decode cX11_leading 101 = .ok (.iload_n 3, 1) := by decide +kernel
theorem dX11_leading_102 : decode cX11_leading 102 = .ok (.iadd, 1) := by decide +kernel
theorem dX11_leading_103 : decode cX11_leading 103 = .ok (.iconst 2, 1) := by decide +kernel
theorem dX11_leading_104 : decode cX11_leading 104 = .ok (.isub, 1) := by decide +kernel
theorem dX11_leading_105 : decode cX11_leading 105 = .ok (.iaload, 1) := by decide +kernel
theorem dX11_leading_106 : decode cX11_leading 106 = .ok (.ineg, 1) := by decide +kernel
theorem dX11_leading_107 : decode cX11_leading 107 = .ok (.ireturn, 1) := by decide +kernel
set_option maxRecDepth 20000 in
theorem ggX11_drifts_X11_leading : GoodIn wsX11_drifts wsX11_leading := goodIn_r _ [6, 1, 7, 8, 9, 10, 5, 11, 12, 13, 14, 15, 16, 17, 18, 19, 20, 21, 22, 23, 24, 25, 26, 27, 28, 29, 30, 31, 32, 33, 34, 35, 36, 37, 38, 39, 40, 41, 42, 43, 44, 45, 46, 47, 48, 49, 50, 51, 52, 53, 54, 55, 56, 57, 58, 59, 60, 61, 62, 63, 64, 65, 66, 67, 68, 69, 70, 71, 72, 73, 74, 75, 76, 77, 78, 79, 80, 81, 82, 83, 84, 85, 86, 87, 88, 89] (by decide +kernel) (by decide +kernel)
set_option maxRecDepth 20000 in
theorem gX11_drifts_X11_leading : GoodIn wsX11_drifts (wsV RX11 281 RX11 yX11_leading wsX11_leading) := goodIn_app (goodIn_of _ (by decide +kernel)) ggX11_drifts_X11_leading
theorem dX11_drifts_0 : decode cX11_drifts 0 = .ok (.bipush (-9), 2) := by decide +kernel
theorem dX11_drifts_2 : decode cX11_drifts 2 = .ok (.istore 4, 2) := by decide +kernel
theorem dX11_drifts_4 : decode cX11_drifts 4 = .ok (.iconst 0, 1) := by decide +kernel
theorem dX11_drifts_5 : decode cX11_drifts 5 = .ok (.istore 5, 2) := by decide +kernel
theorem dX11_drifts_7 : decode cX11_drifts 7 = .ok (.iconst 0, 1) := by decide +kernel
theorem dX11_drifts_8 : decode cX11_drifts 8 = .ok (.istore 6, 2) := by decide +kernel
theorem dX11_drifts_10 : decode cX11_drifts 10 = .ok (.iload 6, 2) := by decide +kernel
theorem dX11_drifts_12 : decode cX11_drifts 12 = .ok (.iconst 4, 1) := by decide +kernel
theorem dX11_drifts_13 : decode cX11_drifts 13 = .ok (.if_icmp .ge 51, 3) := by decide +kernel
theorem dX11_drifts_16 : decode cX11_drifts 16 = .ok (.aload_n 0, 1) := by decide +kernel
theorem dX11_drifts_17 : decode cX11_drifts 17 = .ok (.iload_n 1, 1) := by decide +kernel
theorem dX11_drifts_18 : decode cX11_drifts 18 = .ok (.iload_n 2, 1) := by decide +kernel
theorem dX11_drifts_19 : decode cX11_drifts 19 = .ok (.iload 6, 2) := by decide +kernel
theorem dX11_drifts_21 : decode cX11_drifts 21 = .ok (.invokevirtual 281, 3) := by decide +kernel
theorem dX11_drifts_24 : decode cX11_drifts 24 = .ok (.istore 7, 2) := by decide +kernel
theorem dX11_drifts_26 : decode cX11_drifts 26 = .ok (.iload 7, 2) := by decide +kernel
theorem dX11_drifts_28 : decode cX11_drifts 28 = .ok (.iload 5, 2) := by decide +kernel
theorem dX11_drifts_30 : decode cX11_drifts 30 = .ok (.if_icmp .le 8, 3) := by decide +kernel
theorem dX11_drifts_33 : decode cX11_drifts 33 = .ok (.iload 6, 2) := by decide +kernel
theorem dX11_drifts_35 : decode cX11_drifts 35 = .ok (.goto 5, 3) := by decide +kernel
theorem dX11_drifts_38 : decode cX11_drifts 38 = .ok (.iload 4, 2) := by decide +kernel
theorem dX11_drifts_40 : decode cX11_drifts 40 = .ok (.istore 4, 2) := by decide +kernel
theorem dX11_drifts_42 : decode cX11_drifts 42 = .ok (.iload 7, 2) := by decide +kernel
theorem dX11_drifts_44 : decode cX11_drifts 44 = .ok (.iload 5, 2) := by decide +kernel
theorem dX11_drifts_46 : decode cX11_drifts 46 = .ok (.if_icmp .le 8, 3) := by decide +kernel
theorem dX11_drifts_49 : decode cX11_drifts 49 = .ok (.iload 7, 2) := by decide +kernel
theorem dX11_drifts_51 : decode cX11_drifts 51 = .ok (.goto 5, 3) := by decide +kernel
theorem dX11_drifts_54 : decode cX11_drifts 54 = .ok (.iload 5, 2) := by decide +kernel
theorem dX11_drifts_56 : decode cX11_drifts 56 = .ok (.istore 5, 2) := by decide +kernel
theorem dX11_drifts_58 : decode cX11_drifts 58 = .ok (.iinc 6 1, 3) := by decide +kernel
theorem dX11_drifts_61 : decode cX11_drifts 61 = .ok (.goto (-51), 3) := by decide +kernel
theorem dX11_drifts_64 : decode cX11_drifts 64 = .ok (.iload 4, 2) := by decide +kernel
theorem dX11_drifts_66 : decode cX11_drifts 66 = .ok (.ifCond .lt 9, 3) := by decide +kernel
theorem dX11_drifts_69 : decode cX11_drifts 69 = .ok (.iload 5, 2) := by decide +kernel
theorem dX11_drifts_71 : decode cX11_drifts 71 = .ok (.iload_n 3, 1) := by decide +kernel
theorem dX11_drifts_72 : decode cX11_drifts 72 = .ok (.if_icmp .ge 5, 3) := by decide +kernel
theorem dX11_drifts_75 : decode cX11_drifts 75 = .ok (.iload_n 2, 1) := by decide +kernel
theorem dX11_drifts_76 : decode cX11_drifts 76 = .ok (.ireturn, 1) := by decide +kernel
theorem dX11_drifts_77 : decode cX11_drifts 77 = .ok (.iload 4, 2) := by decide +kernel
theorem dX11_drifts_79 : decode cX11_drifts 79 = .ok (.ifCond .ne 9, 3) := by decide +kernel
theorem dX11_drifts_82 : decode cX11_drifts 82 = .ok (.iload_n 2, 1) := by decide +kernel
theorem dX11_drifts_83 : decode cX11_drifts 83 = .ok (.iconst 1, 1) := by decide +kernel
theorem dX11_drifts_84 : decode cX11_drifts 84 = .ok (.iadd, 1) := by decide +kernel
theorem dX11_drifts_85 : decode cX11_drifts 85 = .ok (.goto 40, 3) := by decide +kernel
theorem dX11_drifts_88 : decode cX11_drifts 88 = .ok (.iload 4, 2) := by decide +kernel
theorem dX11_drifts_90 : decode cX11_drifts 90 = .ok (.iconst 1, 1) := by decide +kernel
theorem dX11_drifts_91 : decode cX11_drifts 91 = .ok (.if_icmp .ne 14, 3) := by decide +kernel
theorem dX11_drifts_94 : decode cX11_drifts 94 = .ok (.iload_n 2, 1) := by decide +kernel
theorem dX11_drifts_95 : decode cX11_drifts 95 = .ok (.aload_n 0, 1) := by decide +kernel
theorem dX11_drifts_96 : decode cX11_drifts 96 = .ok (.getfield 41, 3) := by decide +kernel
theorem dX11_drifts_99 : decode cX11_drifts 99 = .ok (.iload_n 1, 1) := by decide +kernel
theorem dX11_drifts_100 : decode cX11_drifts 100 = .ok (.iaload, 1) := by decide +kernel
theorem dX11_drifts_101 : decode cX11_drifts 101 = .ok (.iadd, 1) := by decide +kernel
theorem dX11_drifts_102 : decode cX11_drifts 102 = .ok (.goto 23, 3) := by decide +kernel
theorem dX11_drifts_105 : decode cX11_drifts 105 = .ok (.iload 4, 2) := by decide +kernel
theorem dX11_drifts_107 : decode cX11_drifts 107 = .ok (.iconst 2, 1) := by decide +kernel
theorem dX11_drifts_108 : decode cX11_drifts 108 = .ok (.if_icmp .ne 9, 3) := by decide +kernel
theorem dX11_drifts_111 : decode cX11_drifts 111 = .ok (.iload_n 2, 1) := by decide +kernel
theorem dX11_drifts_112 : decode cX11_drifts 112 = .ok (.iconst 1, 1) := by decide +kernel
theorem dX11_drifts_113 : decode cX11_drifts 113 = .ok (.isub, 1) := by decide +kernel
theorem dX11_drifts_114 : decode cX11_drifts 114 = .ok (.goto 11, 3) := by decide +kernel
theorem dX11_drifts_117 : decode cX11_drifts 117 = .ok (.iload_n 2, 1) := by decide +kernel
theorem dX11_drifts_118 : decode cX11_drifts 118 = .ok (.aload_n 0, 1) := by decide +kernel
theorem dX11_drifts_119 : decode cX11_drifts 119 = .ok (.getfield 41, 3) := by decide +kernel
theorem dX11_drifts_122 : decode cX11_drifts 122 = .ok (.iload_n 1, 1) := by decide +kernel
theorem dX11_drifts_123 : decode cX11_drifts 123 = .ok (.iaload, 1) := by decide +kernel
theorem dX11_drifts_124 : decode cX11_drifts 124 = .ok (.isub, 1) := by decide +kernel
theorem dX11_drifts_125 : decode cX11_drifts 125 = .ok (.ireturn, 1) := by decide +kernel
set_option maxRecDepth 20000 in
theorem ggX11_step_X11_in : GoodIn wsX11_step wsX11_in := goodIn_r _ [4] (by decide +kernel) (by decide +kernel)
set_option maxRecDepth 20000 in
theorem gX11_step_X11_in : GoodIn wsX11_step (va_wsS RX11 182 yX11_in wsX11_in) := goodIn_app (goodIn_of _ (by decide +kernel)) ggX11_step_X11_in
set_option maxRecDepth 20000 in
theorem ggX11_step_X11_askedFor : GoodIn wsX11_step wsX11_askedFor := goodIn_r _ [8, 9, 10, 11, 3, 12, 1, 2, 4, 13, 14, 15, 16, 17, 18, 113, 114, 115, 116, 117, 118, 119, 120, 121, 122, 123, 124, 125, 126, 127, 128, 129, 130, 131, 132, 133, 134, 135, 136, 137, 138, 139, 140, 141, 142, 143, 144, 145, 146, 147, 148, 149, 150, 151, 152, 153, 154, 155, 156, 157, 158, 159, 160, 161, 162, 163, 164, 165, 166, 167, 168, 169, 170, 171, 172, 173, 174, 175, 176, 177, 178] (by decide +kernel) (by decide +kernel)
set_option maxRecDepth 20000 in
theorem gX11_step_X11_askedFor : GoodIn wsX11_step (wsV RX11 237 RX11 yX11_askedFor wsX11_askedFor) := goodIn_app (goodIn_of _ (by decide +kernel)) ggX11_step_X11_askedFor
set_option maxRecDepth 20000 in
theorem ggX11_step_X11_stepOnce : GoodIn wsX11_step wsX11_stepOnce := goodIn_r _ [22, 23, 24, 25, 26, 27, 28, 29, 30, 31, 32, 33, 34, 35, 36, 37, 38, 39, 40, 41, 42, 3, 43, 44, 45, 46, 47, 48, 49, 50, 51, 52, 53, 54, 55, 56, 57, 58, 1, 2, 4, 59, 60, 61, 62, 63, 64, 9, 65, 66, 67, 68, 69, 70, 71, 72, 73, 74, 75, 76, 77, 78, 79, 80, 81, 82, 83, 84, 85, 86, 87, 88, 89, 90, 91, 92, 93, 94, 95, 96, 97, 98, 99, 100, 101, 102, 103, 104, 105, 106, 107, 108, 109, 110, 111, 112, 113, 114, 115, 116, 117, 118, 119, 120, 121, 122, 123, 124, 125, 126, 127, 128, 129, 130, 131, 132, 133, 134, 135, 136, 137, 138, 139, 140, 141, 142, 143, 144, 145, 146, 147, 148, 149, 150, 151, 152, 153, 154, 155, 156, 157, 158, 159, 160, 161, 162, 163, 164, 165, 166, 167, 168, 169, 170, 171, 172, 173, 174, 175, 176, 177, 178] (by decide +kernel) (by decide +kernel)
set_option maxRecDepth 20000 in
theorem gX11_step_X11_stepOnce : GoodIn wsX11_step (wsV RX11 284 RX11 yX11_stepOnce wsX11_stepOnce) := goodIn_app (goodIn_of _ (by decide +kernel)) ggX11_step_X11_stepOnce
theorem dX11_step_0 : decode cX11_step 0 = .ok (.iload_n 2, 1) := by decide +kernel
theorem dX11_step_1 : decode cX11_step 1 = .ok (.iconst 0, 1) := by decide +kernel
theorem dX11_step_2 : decode cX11_step 2 = .ok (.sipush 200, 3) := by decide +kernel
theorem dX11_step_5 : decode cX11_step 5 = .ok (.invokestatic 182, 3) := by decide +kernel
theorem dX11_step_8 : decode cX11_step 8 = .ok (.ifCond .ne 5, 3) := by decide +kernel
theorem dX11_step_11 : decode cX11_step 11 = .ok (.iconst (-1), 1) := by decide +kernel
theorem dX11_step_12 : decode cX11_step 12 = .ok (.ireturn, 1) := by decide +kernel
theorem dX11_step_13 : decode cX11_step 13 = .ok (.aload_n 0, 1) := by decide +kernel
theorem dX11_step_14 : decode cX11_step 14 = .ok (.iload_n 1, 1) := by decide +kernel
theorem dX11_step_15 : decode cX11_step 15 = .ok (.invokevirtual 237, 3) := by decide +kernel
theorem dX11_step_18 : decode cX11_step 18 = .ok (.istore_n 3, 1) := by decide +kernel
theorem dX11_step_19 : decode cX11_step 19 = .ok (.iload_n 3, 1) := by decide +kernel
theorem dX11_step_20 : decode cX11_step 20 = .ok (.ifCond .ge 5, 3) := by decide +kernel
theorem dX11_step_23 : decode cX11_step 23 = .ok (.iload_n 3, 1) := by decide +kernel
theorem dX11_step_24 : decode cX11_step 24 = .ok (.ireturn, 1) := by decide +kernel
theorem dX11_step_25 : decode cX11_step 25 = .ok (.iconst 0, 1) := by decide +kernel
theorem dX11_step_26 : decode cX11_step 26 = .ok (.istore 4, 2) := by decide +kernel
theorem dX11_step_28 : decode cX11_step 28 = .ok (.iload 4, 2) := by decide +kernel
theorem dX11_step_30 : decode cX11_step 30 = .ok (.iload_n 2, 1) := by decide +kernel
theorem dX11_step_31 : decode cX11_step 31 = .ok (.if_icmp .ge 17, 3) := by decide +kernel
theorem dX11_step_34 : decode cX11_step 34 = .ok (.aload_n 0, 1) := by decide +kernel
theorem dX11_step_35 : decode cX11_step 35 = .ok (.iload_n 1, 1) := by decide +kernel
theorem dX11_step_36 : decode cX11_step 36 = .ok (.invokevirtual 284, 3) := by decide +kernel
theorem dX11_step_39 : decode cX11_step 39 = .ok (.ifCond .eq 9, 3) := by decide +kernel
theorem dX11_step_42 : decode cX11_step 42 = .ok (.iinc 4 1, 3) := by decide +kernel
theorem dX11_step_45 : decode cX11_step 45 = .ok (.goto (-17), 3) := by decide +kernel
theorem dX11_step_48 : decode cX11_step 48 = .ok (.iload 4, 2) := by decide +kernel
theorem dX11_step_50 : decode cX11_step 50 = .ok (.ireturn, 1) := by decide +kernel
theorem dX11_sumOf_0 : decode cX11_sumOf 0 = .ok (.iconst 0, 1) := by decide +kernel
theorem dX11_sumOf_1 : decode cX11_sumOf 1 = .ok (.istore 4, 2) := by decide +kernel
theorem dX11_sumOf_3 : decode cX11_sumOf 3 = .ok (.iconst 0, 1) := by decide +kernel
theorem dX11_sumOf_4 : decode cX11_sumOf 4 = .ok (.istore 5, 2) := by decide +kernel
theorem dX11_sumOf_6 : decode cX11_sumOf 6 = .ok (.iload 5, 2) := by decide +kernel
theorem dX11_sumOf_8 : decode cX11_sumOf 8 = .ok (.iload_n 3, 1) := by decide +kernel
theorem dX11_sumOf_9 : decode cX11_sumOf 9 = .ok (.if_icmp .ge 20, 3) := by decide +kernel
theorem dX11_sumOf_12 : decode cX11_sumOf 12 = .ok (.iload 4, 2) := by decide +kernel
theorem dX11_sumOf_14 : decode cX11_sumOf 14 = .ok (.aload_n 1, 1) := by decide +kernel
theorem dX11_sumOf_15 : decode cX11_sumOf 15 = .ok (.iload_n 2, 1) := by decide +kernel
theorem dX11_sumOf_16 : decode cX11_sumOf 16 = .ok (.iload 5, 2) := by decide +kernel
theorem dX11_sumOf_18 : decode cX11_sumOf 18 = .ok (.iadd, 1) := by decide +kernel
theorem dX11_sumOf_19 : decode cX11_sumOf 19 = .ok (.iaload, 1) := by decide +kernel
theorem dX11_sumOf_20 : decode cX11_sumOf 20 = .ok (.iadd, 1) := by decide +kernel
theorem dX11_sumOf_21 : decode cX11_sumOf 21 = .ok (.istore 4, 2) := by decide +kernel
theorem dX11_sumOf_23 : decode cX11_sumOf 23 = .ok (.iinc 5 1, 3) := by decide +kernel
theorem dX11_sumOf_26 : decode cX11_sumOf 26 = .ok (.goto (-20), 3) := by decide +kernel
theorem dX11_sumOf_29 : decode cX11_sumOf 29 = .ok (.iload 4, 2) := by decide +kernel
theorem dX11_sumOf_31 : decode cX11_sumOf 31 = .ok (.ireturn, 1) := by decide +kernel
set_option maxRecDepth 20000 in
theorem ggX11_dry_X11_cells : GoodIn wsX11_dry wsX11_cells := goodIn_r _ [6, 7, 8, 9, 10, 11, 12, 13, 14, 15, 16, 17, 18, 19, 20, 21, 22, 23, 24, 25, 26, 27, 28, 29, 30, 31, 32, 33, 34, 35, 36, 37, 38, 39, 40, 41, 42, 43, 44, 45, 46, 47, 48, 49, 50, 51, 52, 53, 54, 55, 56, 57, 58, 59, 60, 61, 62, 63, 64, 65, 66, 67, 68, 69, 70, 71, 72, 73, 74] (by decide +kernel) (by decide +kernel)
set_option maxRecDepth 20000 in
theorem gX11_dry_X11_cells : GoodIn wsX11_dry (wsV RX11 223 RX11 yX11_cells wsX11_cells) := goodIn_app (goodIn_of _ (by decide +kernel)) ggX11_dry_X11_cells
theorem dX11_dry_0 : decode cX11_dry 0 = .ok (.iconst 0, 1) := by decide +kernel
theorem dX11_dry_1 : decode cX11_dry 1 = .ok (.istore_n 2, 1) := by decide +kernel
theorem dX11_dry_2 : decode cX11_dry 2 = .ok (.iconst 0, 1) := by decide +kernel
theorem dX11_dry_3 : decode cX11_dry 3 = .ok (.istore_n 3, 1) := by decide +kernel
theorem dX11_dry_4 : decode cX11_dry 4 = .ok (.iload_n 3, 1) := by decide +kernel
theorem dX11_dry_5 : decode cX11_dry 5 = .ok (.aload_n 0, 1) := by decide +kernel
theorem dX11_dry_6 : decode cX11_dry 6 = .ok (.iload_n 1, 1) := by decide +kernel
theorem dX11_dry_7 : decode cX11_dry 7 = .ok (.invokevirtual 223, 3) := by decide +kernel
theorem dX11_dry_10 : decode cX11_dry 10 = .ok (.if_icmp .ge 31, 3) := by decide +kernel
theorem dX11_dry_13 : decode cX11_dry 13 = .ok (.iload_n 2, 1) := by decide +kernel
theorem dX11_dry_14 : decode cX11_dry 14 = .ok (.aload_n 0, 1) := by decide +kernel
theorem dX11_dry_15 : decode cX11_dry 15 = .ok (.getfield 92, 3) := by decide +kernel
theorem dX11_dry_18 : decode cX11_dry 18 = .ok (.bipush 48, 2) := by decide +kernel
theorem dX11_dry_20 : decode cX11_dry 20 = .ok (.iload_n 1, 1) := by decide +kernel
theorem dX11_dry_21 : decode cX11_dry 21 = .ok (.imul, 1) := by decide +kernel
theorem dX11_dry_22 : decode cX11_dry 22 = .ok (.iload_n 3, 1) := by decide +kernel
theorem dX11_dry_23 : decode cX11_dry 23 = .ok (.iadd, 1) := by decide +kernel
theorem dX11_dry_24 : decode cX11_dry 24 = .ok (.iaload, 1) := by decide +kernel
theorem dX11_dry_25 : decode cX11_dry 25 = .ok (.ifCond .ne 7, 3) := by decide +kernel
theorem dX11_dry_28 : decode cX11_dry 28 = .ok (.iconst 1, 1) := by decide +kernel
theorem dX11_dry_29 : decode cX11_dry 29 = .ok (.goto 4, 3) := by decide +kernel
theorem dX11_dry_32 : decode cX11_dry 32 = .ok (.iconst 0, 1) := by decide +kernel
theorem dX11_dry_33 : decode cX11_dry 33 = .ok (.iadd, 1) := by decide +kernel
theorem dX11_dry_34 : decode cX11_dry 34 = .ok (.istore_n 2, 1) := by decide +kernel
theorem dX11_dry_35 : decode cX11_dry 35 = .ok (.iinc 3 1, 3) := by decide +kernel
theorem dX11_dry_38 : decode cX11_dry 38 = .ok (.goto (-34), 3) := by decide +kernel
theorem dX11_dry_41 : decode cX11_dry 41 = .ok (.iload_n 2, 1) := by decide +kernel
theorem dX11_dry_42 : decode cX11_dry 42 = .ok (.ireturn, 1) := by decide +kernel
set_option maxRecDepth 20000 in
theorem ggX11_tells_X11_cells : GoodIn wsX11_tells wsX11_cells := goodIn_r _ [13, 2, 3, 22, 23, 24, 25, 26, 27, 28, 29, 30, 31, 32, 33, 34, 35, 36, 37, 38, 39, 40, 41, 42, 43, 44, 45, 46, 47, 48, 49, 50, 51, 52, 53, 54, 55, 56, 57, 58, 59, 60, 61, 62, 63, 64, 65, 66, 67, 68, 69, 70, 71, 72, 73, 74, 75, 76, 77, 78, 79, 80, 81, 82, 83, 84, 85, 86, 87] (by decide +kernel) (by decide +kernel)
set_option maxRecDepth 20000 in
theorem gX11_tells_X11_cells : GoodIn wsX11_tells (wsV RX11 223 RX11 yX11_cells wsX11_cells) := goodIn_app (goodIn_of _ (by decide +kernel)) ggX11_tells_X11_cells
set_option maxRecDepth 20000 in
theorem ggX11_tells_X11_sumOf : GoodIn wsX11_tells wsX11_sumOf := goodIn_r _ [17] (by decide +kernel) (by decide +kernel)
set_option maxRecDepth 20000 in
theorem gX11_tells_X11_sumOf : GoodIn wsX11_tells (wsV RX11 287 RX11 yX11_sumOf wsX11_sumOf) := goodIn_app (goodIn_of _ (by decide +kernel)) ggX11_tells_X11_sumOf
set_option maxRecDepth 20000 in
theorem ggX11_tells_X11_dry : GoodIn wsX11_tells wsX11_dry := goodIn_r _ [21, 5, 9, 10, 11, 12, 13, 2, 3, 22, 23, 24, 25, 26, 27, 28, 29, 30, 31, 32, 33, 34, 35, 36, 37, 38, 39, 40, 41, 42, 43, 44, 45, 46, 47, 48, 49, 50, 51, 52, 53, 54, 55, 56, 57, 58, 59, 60, 61, 62, 63, 64, 65, 66, 67, 68, 69, 70, 71, 72, 73, 74, 75, 76, 77, 78, 79, 80, 81, 82, 83, 84, 85, 86, 87] (by decide +kernel) (by decide +kernel)
set_option maxRecDepth 20000 in
theorem gX11_tells_X11_dry : GoodIn wsX11_tells (wsV RX11 290 RX11 yX11_dry wsX11_dry) := goodIn_app (goodIn_of _ (by decide +kernel)) ggX11_tells_X11_dry
theorem dX11_tells_0 : decode cX11_tells 0 = .ok (.iload_n 2, 1) := by decide +kernel
theorem dX11_tells_1 : decode cX11_tells 1 = .ok (.tableswitch 125 0 10 #[59, 66, 73, 80, 87, 105, 112, 125, 125, 125, 119], 59) := by decide +kernel
theorem dX11_tells_60 : decode cX11_tells 60 = .ok (.aload_n 0, 1) := by decide +kernel
theorem dX11_tells_61 : decode cX11_tells 61 = .ok (.getfield 38, 3) := by decide +kernel
theorem dX11_tells_64 : decode cX11_tells 64 = .ok (.iload_n 1, 1) := by decide +kernel
theorem dX11_tells_65 : decode cX11_tells 65 = .ok (.iaload, 1) := by decide +kernel
theorem dX11_tells_66 : decode cX11_tells 66 = .ok (.ireturn, 1) := by decide +kernel
theorem dX11_tells_67 : decode cX11_tells 67 = .ok (.aload_n 0, 1) := by decide +kernel
theorem dX11_tells_68 : decode cX11_tells 68 = .ok (.getfield 41, 3) := by decide +kernel
theorem dX11_tells_71 : decode cX11_tells 71 = .ok (.iload_n 1, 1) := by decide +kernel
theorem dX11_tells_72 : decode cX11_tells 72 = .ok (.iaload, 1) := by decide +kernel
theorem dX11_tells_73 : decode cX11_tells 73 = .ok (.ireturn, 1) := by decide +kernel
theorem dX11_tells_74 : decode cX11_tells 74 = .ok (.aload_n 0, 1) := by decide +kernel
theorem dX11_tells_75 : decode cX11_tells 75 = .ok (.getfield 44, 3) := by decide +kernel
theorem dX11_tells_78 : decode cX11_tells 78 = .ok (.iload_n 1, 1) := by decide +kernel
theorem dX11_tells_79 : decode cX11_tells 79 = .ok (.iaload, 1) := by decide +kernel
theorem dX11_tells_80 : decode cX11_tells 80 = .ok (.ireturn, 1) := by decide +kernel
theorem dX11_tells_81 : decode cX11_tells 81 = .ok (.aload_n 0, 1) := by decide +kernel
theorem dX11_tells_82 : decode cX11_tells 82 = .ok (.getfield 59, 3) := by decide +kernel
theorem dX11_tells_85 : decode cX11_tells 85 = .ok (.iload_n 1, 1) := by decide +kernel
theorem dX11_tells_86 : decode cX11_tells 86 = .ok (.iaload, 1) := by decide +kernel
theorem dX11_tells_87 : decode cX11_tells 87 = .ok (.ireturn, 1) := by decide +kernel
theorem dX11_tells_88 : decode cX11_tells 88 = .ok (.aload_n 0, 1) := by decide +kernel
theorem dX11_tells_89 : decode cX11_tells 89 = .ok (.aload_n 0, 1) := by decide +kernel
theorem dX11_tells_90 : decode cX11_tells 90 = .ok (.getfield 92, 3) := by decide +kernel
theorem dX11_tells_93 : decode cX11_tells 93 = .ok (.bipush 48, 2) := by decide +kernel
theorem dX11_tells_95 : decode cX11_tells 95 = .ok (.iload_n 1, 1) := by decide +kernel
theorem dX11_tells_96 : decode cX11_tells 96 = .ok (.imul, 1) := by decide +kernel
theorem dX11_tells_97 : decode cX11_tells 97 = .ok (.aload_n 0, 1) := by decide +kernel
theorem dX11_tells_98 : decode cX11_tells 98 = .ok (.iload_n 1, 1) := by decide +kernel
theorem dX11_tells_99 : decode cX11_tells 99 = .ok (.invokevirtual 223, 3) := by decide +kernel
theorem dX11_tells_102 : decode cX11_tells 102 = .ok (.invokevirtual 287, 3) := by decide +kernel
theorem dX11_tells_105 : decode cX11_tells 105 = .ok (.ireturn, 1) := by decide +kernel
theorem dX11_tells_106 : decode cX11_tells 106 = .ok (.aload_n 0, 1) := by decide +kernel
theorem dX11_tells_107 : decode cX11_tells 107 = .ok (.getfield 62, 3) := by decide +kernel
theorem dX11_tells_110 : decode cX11_tells 110 = .ok (.iload_n 1, 1) := by decide +kernel
theorem dX11_tells_111 : decode cX11_tells 111 = .ok (.iaload, 1) := by decide +kernel
theorem dX11_tells_112 : decode cX11_tells 112 = .ok (.ireturn, 1) := by decide +kernel
theorem dX11_tells_113 : decode cX11_tells 113 = .ok (.aload_n 0, 1) := by decide +kernel
theorem dX11_tells_114 : decode cX11_tells 114 = .ok (.getfield 65, 3) := by decide +kernel
theorem dX11_tells_117 : decode cX11_tells 117 = .ok (.iload_n 1, 1) := by decide +kernel
theorem dX11_tells_118 : decode cX11_tells 118 = .ok (.iaload, 1) := by decide +kernel
theorem dX11_tells_119 : decode cX11_tells 119 = .ok (.ireturn, 1) := by decide +kernel
theorem dX11_tells_120 : decode cX11_tells 120 = .ok (.aload_n 0, 1) := by decide +kernel
theorem dX11_tells_121 : decode cX11_tells 121 = .ok (.iload_n 1, 1) := by decide +kernel
theorem dX11_tells_122 : decode cX11_tells 122 = .ok (.invokevirtual 290, 3) := by decide +kernel
theorem dX11_tells_125 : decode cX11_tells 125 = .ok (.ireturn, 1) := by decide +kernel
theorem dX11_tells_126 : decode cX11_tells 126 = .ok (.aload_n 0, 1) := by decide +kernel
theorem dX11_tells_127 : decode cX11_tells 127 = .ok (.aload_n 0, 1) := by decide +kernel
theorem dX11_tells_128 : decode cX11_tells 128 = .ok (.getfield 95, 3) := by decide +kernel
theorem dX11_tells_131 : decode cX11_tells 131 = .ok (.sipush 144, 3) := by decide +kernel
theorem dX11_tells_134 : decode cX11_tells 134 = .ok (.iload_n 1, 1) := by decide +kernel
theorem dX11_tells_135 : decode cX11_tells 135 = .ok (.imul, 1) := by decide +kernel
theorem dX11_tells_136 : decode cX11_tells 136 = .ok (.bipush 48, 2) := by decide +kernel
theorem dX11_tells_138 : decode cX11_tells 138 = .ok (.iload_n 2, 1) := by decide +kernel
theorem dX11_tells_139 : decode cX11_tells 139 = .ok (.bipush 7, 2) := by decide +kernel
theorem dX11_tells_141 : decode cX11_tells 141 = .ok (.isub, 1) := by decide +kernel
theorem dX11_tells_142 : decode cX11_tells 142 = .ok (.imul, 1) := by decide +kernel
theorem dX11_tells_143 : decode cX11_tells 143 = .ok (.iadd, 1) := by decide +kernel
theorem dX11_tells_144 : decode cX11_tells 144 = .ok (.aload_n 0, 1) := by decide +kernel
theorem dX11_tells_145 : decode cX11_tells 145 = .ok (.iload_n 1, 1) := by decide +kernel
theorem dX11_tells_146 : decode cX11_tells 146 = .ok (.invokevirtual 223, 3) := by decide +kernel
theorem dX11_tells_149 : decode cX11_tells 149 = .ok (.invokevirtual 287, 3) := by decide +kernel
theorem dX11_tells_152 : decode cX11_tells 152 = .ok (.ireturn, 1) := by decide +kernel
set_option maxRecDepth 20000 in
theorem ggX11_told_X11_in : GoodIn wsX11_told wsX11_in := goodIn_r _ [4] (by decide +kernel) (by decide +kernel)
set_option maxRecDepth 20000 in
theorem gX11_told_X11_in : GoodIn wsX11_told (va_wsS RX11 182 yX11_in wsX11_in) := goodIn_app (goodIn_of _ (by decide +kernel)) ggX11_told_X11_in
set_option maxRecDepth 20000 in
theorem ggX11_told_X11_askedFor : GoodIn wsX11_told wsX11_askedFor := goodIn_r _ [8, 9, 10, 11, 3, 12, 1, 2, 4, 13, 14, 15, 16, 17, 18, 47, 48, 49, 50, 51, 52, 53, 54, 55, 56, 57, 58, 59, 60, 61, 62, 63, 64, 65, 66, 67, 68, 69, 70, 71, 72, 73, 74, 75, 76, 77, 78, 79, 80, 81, 82, 83, 84, 85, 86, 87, 88, 89, 90, 91, 92, 93, 94, 95, 96, 97, 98, 99, 100, 101, 102, 103, 104, 105, 106, 107, 108, 109, 110, 111, 112] (by decide +kernel) (by decide +kernel)
set_option maxRecDepth 20000 in
theorem gX11_told_X11_askedFor : GoodIn wsX11_told (wsV RX11 237 RX11 yX11_askedFor wsX11_askedFor) := goodIn_app (goodIn_of _ (by decide +kernel)) ggX11_told_X11_askedFor
set_option maxRecDepth 20000 in
theorem ggX11_told_X11_tells : GoodIn wsX11_told wsX11_tells := goodIn_r _ [22, 9, 23, 24, 25, 26, 27, 28, 29, 30, 31, 32, 3, 33, 34, 35, 36, 37, 38, 39, 40, 41, 47, 48, 49, 50, 51, 52, 53, 54, 55, 56, 57, 58, 59, 60, 61, 62, 63, 64, 65, 66, 67, 68, 69, 70, 71, 72, 73, 74, 75, 76, 77, 78, 79, 80, 81, 82, 83, 84, 85, 86, 87, 88, 89, 90, 91, 92, 93, 94, 95, 96, 97, 98, 99, 100, 101, 102, 103, 104, 105, 106, 107, 108, 109, 110, 111, 112] (by decide +kernel) (by decide +kernel)
set_option maxRecDepth 20000 in
theorem gX11_told_X11_tells : GoodIn wsX11_told (wsV RX11 293 RX11 yX11_tells wsX11_tells) := goodIn_app (goodIn_of _ (by decide +kernel)) ggX11_told_X11_tells
set_option maxRecDepth 20000 in
theorem ggX11_told_X11_ask : GoodIn wsX11_told wsX11_ask := goodIn_r _ [45, 46, 47, 48, 49, 50, 51, 52, 53, 54, 55, 56, 57, 58, 59, 60, 61, 62, 63, 64, 65, 66, 67, 68, 69, 70, 71, 72, 73, 74, 75, 76, 77, 78, 79, 80, 81, 82, 83, 84, 85, 86, 87, 88, 89, 90, 91, 92, 93, 94, 95, 96, 97, 98, 99, 100, 101, 102, 103, 104, 105, 106, 107, 108, 109, 110, 111, 112] (by decide +kernel) (by decide +kernel)
set_option maxRecDepth 20000 in
theorem gX11_told_X11_ask : GoodIn wsX11_told (wsV RX11 202 RX11 yX11_ask wsX11_ask) := goodIn_app (goodIn_of _ (by decide +kernel)) ggX11_told_X11_ask
theorem dX11_told_0 : decode cX11_told 0 = .ok (.iload_n 2, 1) := by decide +kernel
theorem dX11_told_1 : decode cX11_told 1 = .ok (.iconst 0, 1) := by decide +kernel
theorem dX11_told_2 : decode cX11_told 2 = .ok (.bipush 10, 2) := by decide +kernel
theorem dX11_told_4 : decode cX11_told 4 = .ok (.invokestatic 182, 3) := by decide +kernel
theorem dX11_told_7 : decode cX11_told 7 = .ok (.ifCond .ne 5, 3) := by decide +kernel
theorem dX11_told_10 : decode cX11_told 10 = .ok (.iconst (-1), 1) := by decide +kernel
theorem dX11_told_11 : decode cX11_told 11 = .ok (.ireturn, 1) := by decide +kernel
theorem dX11_told_12 : decode cX11_told 12 = .ok (.aload_n 0, 1) := by decide +kernel
theorem dX11_told_13 : decode cX11_told 13 = .ok (.iload_n 1, 1) := by decide +kernel
theorem dX11_told_14 : decode cX11_told 14 = .ok (.invokevirtual 237, 3) := by decide +kernel
theorem dX11_told_17 : decode cX11_told 17 = .ok (.istore_n 3, 1) := by decide +kernel
theorem dX11_told_18 : decode cX11_told 18 = .ok (.iload_n 3, 1) := by decide +kernel
theorem dX11_told_19 : decode cX11_told 19 = .ok (.ifCond .ge 7, 3) := by decide +kernel
theorem dX11_told_22 : decode cX11_told 22 = .ok (.iload_n 3, 1) := by decide +kernel
theorem dX11_told_23 : decode cX11_told 23 = .ok (.goto 14, 3) := by decide +kernel
theorem dX11_told_26 : decode cX11_told 26 = .ok (.aload_n 0, 1) := by decide +kernel
theorem dX11_told_27 : decode cX11_told 27 = .ok (.aload_n 0, 1) := by decide +kernel
theorem dX11_told_28 : decode cX11_told 28 = .ok (.iload_n 1, 1) := by decide +kernel
theorem dX11_told_29 : decode cX11_told 29 = .ok (.iload_n 2, 1) := by decide +kernel
theorem dX11_told_30 : decode cX11_told 30 = .ok (.invokevirtual 293, 3) := by decide +kernel
theorem dX11_told_33 : decode cX11_told 33 = .ok (.iconst 1, 1) := by decide +kernel
theorem dX11_told_34 : decode cX11_told 34 = .ok (.invokevirtual 202, 3) := by decide +kernel
theorem dX11_told_37 : decode cX11_told 37 = .ok (.ireturn, 1) := by decide +kernel
set_option maxRecDepth 20000 in
theorem ggX11_mark_X11_in : GoodIn wsX11_mark wsX11_in := goodIn_r _ [6] (by decide +kernel) (by decide +kernel)
set_option maxRecDepth 20000 in
theorem gX11_mark_X11_in : GoodIn wsX11_mark (va_wsS RX11 182 yX11_in wsX11_in) := goodIn_app (goodIn_of _ (by decide +kernel)) ggX11_mark_X11_in
set_option maxRecDepth 20000 in
theorem ggX11_mark_X11_askedFor : GoodIn wsX11_mark wsX11_askedFor := goodIn_r _ [10, 1, 11, 12, 5, 13, 3, 4, 6, 14, 15, 16, 17, 18, 19, 57, 58, 59, 60, 61, 62, 63, 64, 65, 66, 67, 68, 69, 70, 71, 72, 73, 74, 75, 76, 77, 78, 79, 80, 81, 82, 83, 84, 85, 86, 87, 88, 89, 90, 91, 92, 93, 94, 95, 96, 97, 98, 99, 100, 101, 102, 103, 104, 105, 106, 107, 108, 109, 110, 111, 112, 113, 114, 115, 116, 117, 118, 119, 120, 121, 122] (by decide +kernel) (by decide +kernel)
set_option maxRecDepth 20000 in
theorem gX11_mark_X11_askedFor : GoodIn wsX11_mark (wsV RX11 237 RX11 yX11_askedFor wsX11_askedFor) := goodIn_app (goodIn_of _ (by decide +kernel)) ggX11_mark_X11_askedFor
set_option maxRecDepth 20000 in
theorem ggX11_mark_X11_meets : GoodIn wsX11_mark wsX11_meets := goodIn_r _ [17, 18, 19, 57, 58, 59, 60, 61, 62, 63, 64, 65, 66, 67, 68, 69, 70, 71, 72, 73, 74, 75, 76, 77, 78, 79, 80, 81, 82, 83, 84, 85, 86, 87, 88, 89, 90, 91, 92, 93, 94, 95, 96, 97, 98, 99, 100, 101, 102, 103, 104, 105, 106, 107, 108, 109, 110, 111, 112, 113, 114, 115, 116, 117, 118, 119, 120, 121, 122] (by decide +kernel) (by decide +kernel)
set_option maxRecDepth 20000 in
theorem gX11_mark_X11_meets : GoodIn wsX11_mark (wsV RX11 190 RX11 yX11_meets wsX11_meets) := goodIn_app (goodIn_of _ (by decide +kernel)) ggX11_mark_X11_meets
set_option maxRecDepth 20000 in
theorem ggX11_mark_X11_hasTide : GoodIn wsX11_mark wsX11_hasTide := goodIn_r _ [23, 24, 25, 26, 27, 28, 5, 29, 1, 57, 58, 59, 60, 61, 62, 63, 64, 65, 66, 67, 68, 69, 70, 71, 72, 73, 74, 75, 76, 77, 78, 79, 80, 81, 82, 83, 84, 85, 86, 87, 88, 89, 90, 91, 92, 93, 94, 95, 96, 97, 98, 99, 100, 101, 102, 103, 104, 105, 106, 107, 108, 109, 110, 111, 112, 113, 114, 115, 116, 117, 118, 119, 120, 121, 122] (by decide +kernel) (by decide +kernel)
set_option maxRecDepth 20000 in
theorem gX11_mark_X11_hasTide : GoodIn wsX11_mark (wsV RX11 268 RX11 yX11_hasTide wsX11_hasTide) := goodIn_app (goodIn_of _ (by decide +kernel)) ggX11_mark_X11_hasTide
set_option maxRecDepth 20000 in
theorem ggX11_mark_X11_rimLevel : GoodIn wsX11_mark wsX11_rimLevel := goodIn_r _ [33, 24, 34, 35, 25, 36, 57, 58, 59, 60, 61, 62, 63, 64, 65, 66, 67, 68, 69, 70, 71, 72, 73, 74, 75, 76, 77, 78, 79, 80, 81, 82, 83, 84, 85, 86, 87, 88, 89, 90, 91, 92, 93, 94, 95, 96, 97, 98, 99, 100, 101, 102, 103, 104, 105, 106, 107, 108, 109, 110, 111, 112, 113, 114, 115, 116, 117, 118, 119, 120, 121, 122] (by decide +kernel) (by decide +kernel)
set_option maxRecDepth 20000 in
theorem gX11_mark_X11_rimLevel : GoodIn wsX11_mark (wsV RX11 259 RX11 yX11_rimLevel wsX11_rimLevel) := goodIn_app (goodIn_of _ (by decide +kernel)) ggX11_mark_X11_rimLevel
set_option maxRecDepth 20000 in
theorem ggX11_mark_X11_ask : GoodIn wsX11_mark wsX11_ask := goodIn_r _ [40, 41, 57, 58, 59, 60, 61, 62, 63, 64, 65, 66, 67, 68, 69, 70, 71, 72, 73, 74, 75, 76, 77, 78, 79, 80, 81, 82, 83, 84, 85, 86, 87, 88, 89, 90, 91, 92, 93, 94, 95, 96, 97, 98, 99, 100, 101, 102, 103, 104, 105, 106, 107, 108, 109, 110, 111, 112, 113, 114, 115, 116, 117, 118, 119, 120, 121, 122] (by decide +kernel) (by decide +kernel)
set_option maxRecDepth 20000 in
theorem gX11_mark_X11_ask : GoodIn wsX11_mark (wsV RX11 202 RX11 yX11_ask wsX11_ask) := goodIn_app (goodIn_of _ (by decide +kernel)) ggX11_mark_X11_ask
set_option maxRecDepth 20000 in
theorem ggX11_mark_X11_cells : GoodIn wsX11_mark wsX11_cells := goodIn_r _ [45, 46, 47, 57, 58, 59, 60, 61, 62, 63, 64, 65, 66, 67, 68, 69, 70, 71, 72, 73, 74, 75, 76, 77, 78, 79, 80, 81, 82, 83, 84, 85, 86, 87, 88, 89, 90, 91, 92, 93, 94, 95, 96, 97, 98, 99, 100, 101, 102, 103, 104, 105, 106, 107, 108, 109, 110, 111, 112, 113, 114, 115, 116, 117, 118, 119, 120, 121, 122] (by decide +kernel) (by decide +kernel)
set_option maxRecDepth 20000 in
theorem gX11_mark_X11_cells : GoodIn wsX11_mark (wsV RX11 223 RX11 yX11_cells wsX11_cells) := goodIn_app (goodIn_of _ (by decide +kernel)) ggX11_mark_X11_cells
set_option maxRecDepth 20000 in
theorem ggX11_mark_X11_dry : GoodIn wsX11_mark wsX11_dry := goodIn_r _ [51, 52, 42, 43, 44, 5, 45, 46, 47, 57, 58, 59, 60, 61, 62, 63, 64, 65, 66, 67, 68, 69, 70, 71, 72, 73, 74, 75, 76, 77, 78, 79, 80, 81, 82, 83, 84, 85, 86, 87, 88, 89, 90, 91, 92, 93, 94, 95, 96, 97, 98, 99, 100, 101, 102, 103, 104, 105, 106, 107, 108, 109, 110, 111, 112, 113, 114, 115, 116, 117, 118, 119, 120, 121, 122] (by decide +kernel) (by decide +kernel)
set_option maxRecDepth 20000 in
theorem gX11_mark_X11_dry : GoodIn wsX11_mark (wsV RX11 290 RX11 yX11_dry wsX11_dry) := goodIn_app (goodIn_of _ (by decide +kernel)) ggX11_mark_X11_dry
set_option maxRecDepth 20000 in
theorem ggX11_mark_X11_sumOf : GoodIn wsX11_mark wsX11_sumOf := goodIn_r _ [56] (by decide +kernel) (by decide +kernel)
set_option maxRecDepth 20000 in
theorem gX11_mark_X11_sumOf : GoodIn wsX11_mark (wsV RX11 287 RX11 yX11_sumOf wsX11_sumOf) := goodIn_app (goodIn_of _ (by decide +kernel)) ggX11_mark_X11_sumOf
theorem dX11_mark_0 : decode cX11_mark 0 = .ok (.iload_n 2, 1) := by decide +kernel
theorem dX11_mark_1 : decode cX11_mark 1 = .ok (.iconst 1, 1) := by decide +kernel
theorem dX11_mark_2 : decode cX11_mark 2 = .ok (.iconst 3, 1) := by decide +kernel
theorem dX11_mark_3 : decode cX11_mark 3 = .ok (.invokestatic 182, 3) := by decide +kernel
theorem dX11_mark_6 : decode cX11_mark 6 = .ok (.ifCond .ne 5, 3) := by decide +kernel
theorem dX11_mark_9 : decode cX11_mark 9 = .ok (.iconst (-1), 1) := by decide +kernel
theorem dX11_mark_10 : decode cX11_mark 10 = .ok (.ireturn, 1) := by decide +kernel
theorem dX11_mark_11 : decode cX11_mark 11 = .ok (.aload_n 0, 1) := by decide +kernel
theorem dX11_mark_12 : decode cX11_mark 12 = .ok (.iload_n 1, 1) := by decide +kernel
theorem dX11_mark_13 : decode cX11_mark 13 = .ok (.invokevirtual 237, 3) := by decide +kernel
theorem dX11_mark_16 : decode cX11_mark 16 = .ok (.istore_n 3, 1) := by decide +kernel
theorem dX11_mark_17 : decode cX11_mark 17 = .ok (.iload_n 3, 1) := by decide +kernel
theorem dX11_mark_18 : decode cX11_mark 18 = .ok (.ifCond .ge 5, 3) := by decide +kernel
theorem dX11_mark_21 : decode cX11_mark 21 = .ok (.iload_n 3, 1) := by decide +kernel
theorem dX11_mark_22 : decode cX11_mark 22 = .ok (.ireturn, 1) := by decide +kernel
theorem dX11_mark_23 : decode cX11_mark 23 = .ok (.aload_n 0, 1) := by decide +kernel
theorem dX11_mark_24 : decode cX11_mark 24 = .ok (.getfield 38, 3) := by decide +kernel
theorem dX11_mark_27 : decode cX11_mark 27 = .ok (.iload_n 1, 1) := by decide +kernel
theorem dX11_mark_28 : decode cX11_mark 28 = .ok (.iaload, 1) := by decide +kernel
theorem dX11_mark_29 : decode cX11_mark 29 = .ok (.iload_n 2, 1) := by decide +kernel
theorem dX11_mark_30 : decode cX11_mark 30 = .ok (.if_icmp .eq 24, 3) := by decide +kernel
theorem dX11_mark_33 : decode cX11_mark 33 = .ok (.iload_n 2, 1) := by decide +kernel
theorem dX11_mark_34 : decode cX11_mark 34 = .ok (.iconst 1, 1) := by decide +kernel
theorem dX11_mark_35 : decode cX11_mark 35 = .ok (.if_icmp .ne 13, 3) := by decide +kernel
theorem dX11_mark_38 : decode cX11_mark 38 = .ok (.aload_n 0, 1) := by decide +kernel
theorem dX11_mark_39 : decode cX11_mark 39 = .ok (.getfield 38, 3) := by decide +kernel
theorem dX11_mark_42 : decode cX11_mark 42 = .ok (.iload_n 1, 1) := by decide +kernel
theorem dX11_mark_43 : decode cX11_mark 43 = .ok (.iaload, 1) := by decide +kernel
theorem dX11_mark_44 : decode cX11_mark 44 = .ok (.iconst 3, 1) := by decide +kernel
theorem dX11_mark_45 : decode cX11_mark 45 = .ok (.if_icmp .eq 9, 3) := by decide +kernel
theorem dX11_mark_48 : decode cX11_mark 48 = .ok (.aload_n 0, 1) := by decide +kernel
theorem dX11_mark_49 : decode cX11_mark 49 = .ok (.iconst 3, 1) := by decide +kernel
theorem dX11_mark_50 : decode cX11_mark 50 = .ok (.invokevirtual 190, 3) := by decide +kernel
theorem dX11_mark_53 : decode cX11_mark 53 = .ok (.ireturn, 1) := by decide +kernel
theorem dX11_mark_54 : decode cX11_mark 54 = .ok (.iload_n 2, 1) := by decide +kernel
theorem dX11_mark_55 : decode cX11_mark 55 = .ok (.iconst 1, 1) := by decide +kernel
theorem dX11_mark_56 : decode cX11_mark 56 = .ok (.if_icmp .ne 27, 3) := by decide +kernel
theorem dX11_mark_59 : decode cX11_mark 59 = .ok (.aload_n 0, 1) := by decide +kernel
theorem dX11_mark_60 : decode cX11_mark 60 = .ok (.iload_n 1, 1) := by decide +kernel
theorem dX11_mark_61 : decode cX11_mark 61 = .ok (.invokevirtual 268, 3) := by decide +kernel
theorem dX11_mark_64 : decode cX11_mark 64 = .ok (.ifCond .eq 16, 3) := by decide +kernel
theorem dX11_mark_67 : decode cX11_mark 67 = .ok (.aload_n 0, 1) := by decide +kernel
theorem dX11_mark_68 : decode cX11_mark 68 = .ok (.aload_n 0, 1) := by decide +kernel
theorem dX11_mark_69 : decode cX11_mark 69 = .ok (.iload_n 1, 1) := by decide +kernel
theorem dX11_mark_70 : decode cX11_mark 70 = .ok (.invokevirtual 259, 3) := by decide +kernel
theorem dX11_mark_73 : decode cX11_mark 73 = .ok (.iconst 1, 1) := by decide +kernel
theorem dX11_mark_74 : decode cX11_mark 74 = .ok (.invokevirtual 202, 3) := by decide +kernel
theorem dX11_mark_77 : decode cX11_mark 77 = .ok (.goto 5, 3) := by decide +kernel
theorem dX11_mark_80 : decode cX11_mark 80 = .ok (.bipush (-9), 2) := by decide +kernel
theorem dX11_mark_82 : decode cX11_mark 82 = .ok (.ireturn, 1) := by decide +kernel
theorem dX11_mark_83 : decode cX11_mark 83 = .ok (.iload_n 2, 1) := by decide +kernel
theorem dX11_mark_84 : decode cX11_mark 84 = .ok (.iconst 3, 1) := by decide +kernel
theorem dX11_mark_85 : decode cX11_mark 85 = .ok (.if_icmp .ne 22, 3) := by decide +kernel
theorem dX11_mark_88 : decode cX11_mark 88 = .ok (.aload_n 0, 1) := by decide +kernel
theorem dX11_mark_89 : decode cX11_mark 89 = .ok (.aload_n 0, 1) := by decide +kernel
theorem dX11_mark_90 : decode cX11_mark 90 = .ok (.iload_n 1, 1) := by decide +kernel
theorem dX11_mark_91 : decode cX11_mark 91 = .ok (.invokevirtual 223, 3) := by decide +kernel
theorem dX11_mark_94 : decode cX11_mark 94 = .ok (.aload_n 0, 1) := by decide +kernel
theorem dX11_mark_95 : decode cX11_mark 95 = .ok (.iload_n 1, 1) := by decide +kernel
theorem dX11_mark_96 : decode cX11_mark 96 = .ok (.invokevirtual 290, 3) := by decide +kernel
theorem dX11_mark_99 : decode cX11_mark 99 = .ok (.isub, 1) := by decide +kernel
theorem dX11_mark_100 : decode cX11_mark 100 = .ok (.iconst 1, 1) := by decide +kernel
theorem dX11_mark_101 : decode cX11_mark 101 = .ok (.invokevirtual 202, 3) := by decide +kernel
theorem dX11_mark_104 : decode cX11_mark 104 = .ok (.goto 27, 3) := by decide +kernel
theorem dX11_mark_107 : decode cX11_mark 107 = .ok (.aload_n 0, 1) := by decide +kernel
theorem dX11_mark_108 : decode cX11_mark 108 = .ok (.aload_n 0, 1) := by decide +kernel
theorem dX11_mark_109 : decode cX11_mark 109 = .ok (.aload_n 0, 1) := by decide +kernel
theorem dX11_mark_110 : decode cX11_mark 110 = .ok (.getfield 117, 3) := by decide +kernel
theorem dX11_mark_113 : decode cX11_mark 113 = .ok (.bipush 48, 2) := by decide +kernel
theorem dX11_mark_115 : decode cX11_mark 115 = .ok (.iload_n 1, 1) := by decide +kernel
theorem dX11_mark_116 : decode cX11_mark 116 = .ok (.imul, 1) := by decide +kernel
theorem dX11_mark_117 : decode cX11_mark 117 = .ok (.aload_n 0, 1) := by decide +kernel
theorem dX11_mark_118 : decode cX11_mark 118 = .ok (.iload_n 1, 1) := by decide +kernel
theorem dX11_mark_119 : decode cX11_mark 119 = .ok (.invokevirtual 223, 3) := by decide +kernel
theorem dX11_mark_122 : decode cX11_mark 122 = .ok (.iconst 4, 1) := by decide +kernel
theorem dX11_mark_123 : decode cX11_mark 123 = .ok (.idiv, 1) := by decide +kernel
theorem dX11_mark_124 : decode cX11_mark 124 = .ok (.invokevirtual 287, 3) := by decide +kernel
theorem dX11_mark_127 : decode cX11_mark 127 = .ok (.iconst 1, 1) := by decide +kernel
theorem dX11_mark_128 : decode cX11_mark 128 = .ok (.invokevirtual 202, 3) := by decide +kernel
theorem dX11_mark_131 : decode cX11_mark 131 = .ok (.ireturn, 1) := by decide +kernel
set_option maxRecDepth 20000 in
theorem ggX11_bring_X11_begin : GoodIn wsX11_bring wsX11_begin := goodIn_r _ [27, 1, 2, 3, 4, 5, 6, 7, 8, 9, 10, 11, 12, 13, 14, 18, 19, 28, 29, 20, 21, 22, 30, 31, 32, 33, 34, 35, 36, 37, 38, 39, 40, 41, 42, 43, 44, 45, 46, 47, 48, 49, 50, 51, 52, 53, 54, 55, 56, 57, 58, 59, 60, 61, 62, 63, 64, 65, 66, 67, 68, 69, 70, 71, 72, 73, 74, 75, 76, 77, 78, 79, 80, 81, 82, 83, 84, 85, 86, 87, 88, 89, 90, 91, 92, 93, 94, 95] (by decide +kernel) (by decide +kernel)
set_option maxRecDepth 20000 in
theorem gX11_bring_X11_begin : GoodIn wsX11_bring (wsV RX11 233 RX11 yX11_begin wsX11_begin) := goodIn_app (goodIn_of _ (by decide +kernel)) ggX11_bring_X11_begin
theorem dX11_bring_0 : decode cX11_bring 0 = .ok (.aload_n 0, 1) := by decide +kernel
theorem dX11_bring_1 : decode cX11_bring 1 = .ok (.iload_n 2, 1) := by decide +kernel
theorem dX11_bring_2 : decode cX11_bring 2 = .ok (.aload_n 0, 1) := by decide +kernel
theorem dX11_bring_3 : decode cX11_bring 3 = .ok (.getfield 38, 3) := by decide +kernel
theorem dX11_bring_6 : decode cX11_bring 6 = .ok (.iload_n 1, 1) := by decide +kernel
theorem dX11_bring_7 : decode cX11_bring 7 = .ok (.iaload, 1) := by decide +kernel
theorem dX11_bring_8 : decode cX11_bring 8 = .ok (.aload_n 0, 1) := by decide +kernel
theorem dX11_bring_9 : decode cX11_bring 9 = .ok (.getfield 41, 3) := by decide +kernel
theorem dX11_bring_12 : decode cX11_bring 12 = .ok (.iload_n 1, 1) := by decide +kernel
theorem dX11_bring_13 : decode cX11_bring 13 = .ok (.iaload, 1) := by decide +kernel
theorem dX11_bring_14 : decode cX11_bring 14 = .ok (.aload_n 0, 1) := by decide +kernel
theorem dX11_bring_15 : decode cX11_bring 15 = .ok (.getfield 44, 3) := by decide +kernel
theorem dX11_bring_18 : decode cX11_bring 18 = .ok (.iload_n 1, 1) := by decide +kernel
theorem dX11_bring_19 : decode cX11_bring 19 = .ok (.iaload, 1) := by decide +kernel
theorem dX11_bring_20 : decode cX11_bring 20 = .ok (.invokevirtual 233, 3) := by decide +kernel
theorem dX11_bring_23 : decode cX11_bring 23 = .ok (.aload_n 0, 1) := by decide +kernel
theorem dX11_bring_24 : decode cX11_bring 24 = .ok (.getfield 47, 3) := by decide +kernel
theorem dX11_bring_27 : decode cX11_bring 27 = .ok (.iload_n 2, 1) := by decide +kernel
theorem dX11_bring_28 : decode cX11_bring 28 = .ok (.aload_n 0, 1) := by decide +kernel
theorem dX11_bring_29 : decode cX11_bring 29 = .ok (.getfield 47, 3) := by decide +kernel
theorem dX11_bring_32 : decode cX11_bring 32 = .ok (.iload_n 1, 1) := by decide +kernel
theorem dX11_bring_33 : decode cX11_bring 33 = .ok (.iaload, 1) := by decide +kernel
theorem dX11_bring_34 : decode cX11_bring 34 = .ok (.iastore, 1) := by decide +kernel
theorem dX11_bring_35 : decode cX11_bring 35 = .ok (.aload_n 0, 1) := by decide +kernel
theorem dX11_bring_36 : decode cX11_bring 36 = .ok (.getfield 50, 3) := by decide +kernel
theorem dX11_bring_39 : decode cX11_bring 39 = .ok (.iload_n 2, 1) := by decide +kernel
theorem dX11_bring_40 : decode cX11_bring 40 = .ok (.aload_n 0, 1) := by decide +kernel
theorem dX11_bring_41 : decode cX11_bring 41 = .ok (.getfield 50, 3) := by decide +kernel
theorem dX11_bring_44 : decode cX11_bring 44 = .ok (.iload_n 1, 1) := by decide +kernel
theorem dX11_bring_45 : decode cX11_bring 45 = .ok (.iaload, 1) := by decide +kernel
theorem dX11_bring_46 : decode cX11_bring 46 = .ok (.iastore, 1) := by decide +kernel
theorem dX11_bring_47 : decode cX11_bring 47 = .ok (.aload_n 0, 1) := by decide +kernel
theorem dX11_bring_48 : decode cX11_bring 48 = .ok (.getfield 53, 3) := by decide +kernel
theorem dX11_bring_51 : decode cX11_bring 51 = .ok (.iload_n 2, 1) := by decide +kernel
theorem dX11_bring_52 : decode cX11_bring 52 = .ok (.aload_n 0, 1) := by decide +kernel
theorem dX11_bring_53 : decode cX11_bring 53 = .ok (.getfield 53, 3) := by decide +kernel
theorem dX11_bring_56 : decode cX11_bring 56 = .ok (.iload_n 1, 1) := by decide +kernel
theorem dX11_bring_57 : decode cX11_bring 57 = .ok (.iaload, 1) := by decide +kernel
theorem dX11_bring_58 : decode cX11_bring 58 = .ok (.iastore, 1) := by decide +kernel
theorem dX11_bring_59 : decode cX11_bring 59 = .ok (.aload_n 0, 1) := by decide +kernel
theorem dX11_bring_60 : decode cX11_bring 60 = .ok (.getfield 56, 3) := by decide +kernel
theorem dX11_bring_63 : decode cX11_bring 63 = .ok (.iload_n 2, 1) := by decide +kernel
theorem dX11_bring_64 : decode cX11_bring 64 = .ok (.aload_n 0, 1) := by decide +kernel
theorem dX11_bring_65 : decode cX11_bring 65 = .ok (.getfield 56, 3) := by decide +kernel
theorem dX11_bring_68 : decode cX11_bring 68 = .ok (.iload_n 1, 1) := by decide +kernel
theorem dX11_bring_69 : decode cX11_bring 69 = .ok (.iaload, 1) := by decide +kernel
theorem dX11_bring_70 : decode cX11_bring 70 = .ok (.iastore, 1) := by decide +kernel
theorem dX11_bring_71 : decode cX11_bring 71 = .ok (.aload_n 0, 1) := by decide +kernel
theorem dX11_bring_72 : decode cX11_bring 72 = .ok (.getfield 59, 3) := by decide +kernel
theorem dX11_bring_75 : decode cX11_bring 75 = .ok (.iload_n 2, 1) := by decide +kernel
theorem dX11_bring_76 : decode cX11_bring 76 = .ok (.aload_n 0, 1) := by decide +kernel
theorem dX11_bring_77 : decode cX11_bring 77 = .ok (.getfield 59, 3) := by decide +kernel
theorem dX11_bring_80 : decode cX11_bring 80 = .ok (.iload_n 1, 1) := by decide +kernel
theorem dX11_bring_81 : decode cX11_bring 81 = .ok (.iaload, 1) := by decide +kernel
theorem dX11_bring_82 : decode cX11_bring 82 = .ok (.iastore, 1) := by decide +kernel
theorem dX11_bring_83 : decode cX11_bring 83 = .ok (.aload_n 0, 1) := by decide +kernel
theorem dX11_bring_84 : decode cX11_bring 84 = .ok (.getfield 62, 3) := by decide +kernel
theorem dX11_bring_87 : decode cX11_bring 87 = .ok (.iload_n 2, 1) := by decide +kernel
theorem dX11_bring_88 : decode cX11_bring 88 = .ok (.aload_n 0, 1) := by decide +kernel
theorem dX11_bring_89 : decode cX11_bring 89 = .ok (.getfield 62, 3) := by decide +kernel
theorem dX11_bring_92 : decode cX11_bring 92 = .ok (.iload_n 1, 1) := by decide +kernel
theorem dX11_bring_93 : decode cX11_bring 93 = .ok (.iaload, 1) := by decide +kernel
theorem dX11_bring_94 : decode cX11_bring 94 = .ok (.iastore, 1) := by decide +kernel
theorem dX11_bring_95 : decode cX11_bring 95 = .ok (.aload_n 0, 1) := by decide +kernel
theorem dX11_bring_96 : decode cX11_bring 96 = .ok (.getfield 65, 3) := by decide +kernel
theorem dX11_bring_99 : decode cX11_bring 99 = .ok (.iload_n 2, 1) := by decide +kernel
theorem dX11_bring_100 : decode cX11_bring 100 = .ok (.aload_n 0, 1) := by decide +kernel
theorem dX11_bring_101 : decode cX11_bring 101 = .ok (.getfield 65, 3) := by decide +kernel
theorem dX11_bring_104 : decode cX11_bring 104 = .ok (.iload_n 1, 1) := by decide +kernel
theorem dX11_bring_105 : decode cX11_bring 105 = .ok (.iaload, 1) := by decide +kernel
theorem dX11_bring_106 : decode cX11_bring 106 = .ok (.iastore, 1) := by decide +kernel
theorem dX11_bring_107 : decode cX11_bring 107 = .ok (.aload_n 0, 1) := by decide +kernel
theorem dX11_bring_108 : decode cX11_bring 108 = .ok (.getfield 68, 3) := by decide +kernel
theorem dX11_bring_111 : decode cX11_bring 111 = .ok (.iload_n 2, 1) := by decide +kernel
theorem dX11_bring_112 : decode cX11_bring 112 = .ok (.aload_n 0, 1) := by decide +kernel
theorem dX11_bring_113 : decode cX11_bring 113 = .ok (.getfield 68, 3) := by decide +kernel
theorem dX11_bring_116 : decode cX11_bring 116 = .ok (.iload_n 1, 1) := by decide +kernel
theorem dX11_bring_117 : decode cX11_bring 117 = .ok (.iaload, 1) := by decide +kernel
theorem dX11_bring_118 : decode cX11_bring 118 = .ok (.iastore, 1) := by decide +kernel
theorem dX11_bring_119 : decode cX11_bring 119 = .ok (.aload_n 0, 1) := by decide +kernel
theorem dX11_bring_120 : decode cX11_bring 120 = .ok (.getfield 71, 3) := by decide +kernel
theorem dX11_bring_123 : decode cX11_bring 123 = .ok (.iload_n 2, 1) := by decide +kernel
theorem dX11_bring_124 : decode cX11_bring 124 = .ok (.aload_n 0, 1) := by decide +kernel
theorem dX11_bring_125 : decode cX11_bring 125 = .ok (.getfield 71, 3) := by decide +kernel
theorem dX11_bring_128 : decode cX11_bring 128 = .ok (.iload_n 1, 1) := by decide +kernel
theorem dX11_bring_129 : decode cX11_bring 129 = .ok (.iaload, 1) := by decide +kernel
theorem dX11_bring_130 : decode cX11_bring 130 = .ok (.iastore, 1) := by decide +kernel
theorem dX11_bring_131 : decode cX11_bring 131 = .ok (.aload_n 0, 1) := by decide +kernel
theorem dX11_bring_132 : decode cX11_bring 132 = .ok (.getfield 74, 3) := by decide +kernel
theorem dX11_bring_135 : decode cX11_bring 135 = .ok (.iload_n 2, 1) := by decide +kernel
theorem dX11_bring_136 : decode cX11_bring 136 = .ok (.aload_n 0, 1) := by decide +kernel
theorem dX11_bring_137 : decode cX11_bring 137 = .ok (.getfield 74, 3) := by decide +kernel
theorem dX11_bring_140 : decode cX11_bring 140 = .ok (.iload_n 1, 1) := by decide +kernel
theorem dX11_bring_141 : decode cX11_bring 141 = .ok (.iaload, 1) := by decide +kernel
theorem dX11_bring_142 : decode cX11_bring 142 = .ok (.iastore, 1) := by decide +kernel
theorem dX11_bring_143 : decode cX11_bring 143 = .ok (.aload_n 0, 1) := by decide +kernel
theorem dX11_bring_144 : decode cX11_bring 144 = .ok (.getfield 83, 3) := by decide +kernel
theorem dX11_bring_147 : decode cX11_bring 147 = .ok (.iload_n 2, 1) := by decide +kernel
theorem dX11_bring_148 : decode cX11_bring 148 = .ok (.aload_n 0, 1) := by decide +kernel
theorem dX11_bring_149 : decode cX11_bring 149 = .ok (.getfield 83, 3) := by decide +kernel
theorem dX11_bring_152 : decode cX11_bring 152 = .ok (.iload_n 1, 1) := by decide +kernel
theorem dX11_bring_153 : decode cX11_bring 153 = .ok (.iaload, 1) := by decide +kernel
theorem dX11_bring_154 : decode cX11_bring 154 = .ok (.iastore, 1) := by decide +kernel
theorem dX11_bring_155 : decode cX11_bring 155 = .ok (.iconst 0, 1) := by decide +kernel
theorem dX11_bring_156 : decode cX11_bring 156 = .ok (.istore_n 3, 1) := by decide +kernel
theorem dX11_bring_157 : decode cX11_bring 157 = .ok (.iload_n 3, 1) := by decide +kernel
theorem dX11_bring_158 : decode cX11_bring 158 = .ok (.iconst 4, 1) := by decide +kernel
theorem dX11_bring_159 : decode cX11_bring 159 = .ok (.if_icmp .ge 69, 3) := by decide +kernel
theorem dX11_bring_162 : decode cX11_bring 162 = .ok (.aload_n 0, 1) := by decide +kernel
theorem dX11_bring_163 : decode cX11_bring 163 = .ok (.getfield 77, 3) := by decide +kernel
theorem dX11_bring_166 : decode cX11_bring 166 = .ok (.iconst 4, 1) := by decide +kernel
theorem dX11_bring_167 : decode cX11_bring 167 = .ok (.iload_n 2, 1) := by decide +kernel
theorem dX11_bring_168 : decode cX11_bring 168 = .ok (.imul, 1) := by decide +kernel
theorem dX11_bring_169 : decode cX11_bring 169 = .ok (.iload_n 3, 1) := by decide +kernel
theorem dX11_bring_170 : decode cX11_bring 170 = .ok (.iadd, 1) := by decide +kernel
theorem dX11_bring_171 : decode cX11_bring 171 = .ok (.aload_n 0, 1) := by decide +kernel
theorem dX11_bring_172 : decode cX11_bring 172 = .ok (.getfield 77, 3) := by decide +kernel
theorem dX11_bring_175 : decode cX11_bring 175 = .ok (.iconst 4, 1) := by decide +kernel
theorem dX11_bring_176 : decode cX11_bring 176 = .ok (.iload_n 1, 1) := by decide +kernel
theorem dX11_bring_177 : decode cX11_bring 177 = .ok (.imul, 1) := by decide +kernel
theorem dX11_bring_178 : decode cX11_bring 178 = .ok (.iload_n 3, 1) := by decide +kernel
theorem dX11_bring_179 : decode cX11_bring 179 = .ok (.iadd, 1) := by decide +kernel
theorem dX11_bring_180 : decode cX11_bring 180 = .ok (.iaload, 1) := by decide +kernel
theorem dX11_bring_181 : decode cX11_bring 181 = .ok (.iastore, 1) := by decide +kernel
theorem dX11_bring_182 : decode cX11_bring 182 = .ok (.aload_n 0, 1) := by decide +kernel
theorem dX11_bring_183 : decode cX11_bring 183 = .ok (.getfield 80, 3) := by decide +kernel
theorem dX11_bring_186 : decode cX11_bring 186 = .ok (.iconst 4, 1) := by decide +kernel
theorem dX11_bring_187 : decode cX11_bring 187 = .ok (.iload_n 2, 1) := by decide +kernel
theorem dX11_bring_188 : decode cX11_bring 188 = .ok (.imul, 1) := by decide +kernel
theorem dX11_bring_189 : decode cX11_bring 189 = .ok (.iload_n 3, 1) := by decide +kernel
theorem dX11_bring_190 : decode cX11_bring 190 = .ok (.iadd, 1) := by decide +kernel
theorem dX11_bring_191 : decode cX11_bring 191 = .ok (.aload_n 0, 1) := by decide +kernel
theorem dX11_bring_192 : decode cX11_bring 192 = .ok (.getfield 80, 3) := by decide +kernel
theorem dX11_bring_195 : decode cX11_bring 195 = .ok (.iconst 4, 1) := by decide +kernel
theorem dX11_bring_196 : decode cX11_bring 196 = .ok (.iload_n 1, 1) := by decide +kernel
theorem dX11_bring_197 : decode cX11_bring 197 = .ok (.imul, 1) := by decide +kernel
theorem dX11_bring_198 : decode cX11_bring 198 = .ok (.iload_n 3, 1) := by decide +kernel
theorem dX11_bring_199 : decode cX11_bring 199 = .ok (.iadd, 1) := by decide +kernel
theorem dX11_bring_200 : decode cX11_bring 200 = .ok (.iaload, 1) := by decide +kernel
theorem dX11_bring_201 : decode cX11_bring 201 = .ok (.iastore, 1) := by decide +kernel
theorem dX11_bring_202 : decode cX11_bring 202 = .ok (.aload_n 0, 1) := by decide +kernel
theorem dX11_bring_203 : decode cX11_bring 203 = .ok (.getfield 86, 3) := by decide +kernel
theorem dX11_bring_206 : decode cX11_bring 206 = .ok (.iconst 4, 1) := by decide +kernel
theorem dX11_bring_207 : decode cX11_bring 207 = .ok (.iload_n 2, 1) := by decide +kernel
theorem dX11_bring_208 : decode cX11_bring 208 = .ok (.imul, 1) := by decide +kernel
theorem dX11_bring_209 : decode cX11_bring 209 = .ok (.iload_n 3, 1) := by decide +kernel
theorem dX11_bring_210 : decode cX11_bring 210 = .ok (.iadd, 1) := by decide +kernel
theorem dX11_bring_211 : decode cX11_bring 211 = .ok (.aload_n 0, 1) := by decide +kernel
theorem dX11_bring_212 : decode cX11_bring 212 = .ok (.getfield 86, 3) := by decide +kernel
theorem dX11_bring_215 : decode cX11_bring 215 = .ok (.iconst 4, 1) := by decide +kernel
theorem dX11_bring_216 : decode cX11_bring 216 = .ok (.iload_n 1, 1) := by decide +kernel
theorem dX11_bring_217 : decode cX11_bring 217 = .ok (.imul, 1) := by decide +kernel
theorem dX11_bring_218 : decode cX11_bring 218 = .ok (.iload_n 3, 1) := by decide +kernel
theorem dX11_bring_219 : decode cX11_bring 219 = .ok (.iadd, 1) := by decide +kernel
theorem dX11_bring_220 : decode cX11_bring 220 = .ok (.iaload, 1) := by decide +kernel
theorem dX11_bring_221 : decode cX11_bring 221 = .ok (.iastore, 1) := by decide +kernel
theorem dX11_bring_222 : decode cX11_bring 222 = .ok (.iinc 3 1, 3) := by decide +kernel
theorem dX11_bring_225 : decode cX11_bring 225 = .ok (.goto (-68), 3) := by decide +kernel
theorem dX11_bring_228 : decode cX11_bring 228 = .ok (.iconst 0, 1) := by decide +kernel
theorem dX11_bring_229 : decode cX11_bring 229 = .ok (.istore_n 3, 1) := by decide +kernel
theorem dX11_bring_230 : decode cX11_bring 230 = .ok (.iload_n 3, 1) := by decide +kernel
theorem dX11_bring_231 : decode cX11_bring 231 = .ok (.bipush 48, 2) := by decide +kernel
theorem dX11_bring_233 : decode cX11_bring 233 = .ok (.if_icmp .ge 53, 3) := by decide +kernel
theorem dX11_bring_236 : decode cX11_bring 236 = .ok (.aload_n 0, 1) := by decide +kernel
theorem dX11_bring_237 : decode cX11_bring 237 = .ok (.getfield 89, 3) := by decide +kernel
theorem dX11_bring_240 : decode cX11_bring 240 = .ok (.bipush 48, 2) := by decide +kernel
theorem dX11_bring_242 : decode cX11_bring 242 = .ok (.iload_n 2, 1) := by decide +kernel
theorem dX11_bring_243 : decode cX11_bring 243 = .ok (.imul, 1) := by decide +kernel
theorem dX11_bring_244 : decode cX11_bring 244 = .ok (.iload_n 3, 1) := by decide +kernel
theorem dX11_bring_245 : decode cX11_bring 245 = .ok (.iadd, 1) := by decide +kernel
theorem dX11_bring_246 : decode cX11_bring 246 = .ok (.aload_n 0, 1) := by decide +kernel
theorem dX11_bring_247 : decode cX11_bring 247 = .ok (.getfield 89, 3) := by decide +kernel
theorem dX11_bring_250 : decode cX11_bring 250 = .ok (.bipush 48, 2) := by decide +kernel
theorem dX11_bring_252 : decode cX11_bring 252 = .ok (.iload_n 1, 1) := by decide +kernel
theorem dX11_bring_253 : decode cX11_bring 253 = .ok (.imul, 1) := by decide +kernel
theorem dX11_bring_254 : decode cX11_bring 254 = .ok (.iload_n 3, 1) := by decide +kernel
theorem dX11_bring_255 : decode cX11_bring 255 = .ok (.iadd, 1) := by decide +kernel
theorem dX11_bring_256 : decode cX11_bring 256 = .ok (.iaload, 1) := by decide +kernel
theorem dX11_bring_257 : decode cX11_bring 257 = .ok (.iastore, 1) := by decide +kernel
theorem dX11_bring_258 : decode cX11_bring 258 = .ok (.aload_n 0, 1) := by decide +kernel
theorem dX11_bring_259 : decode cX11_bring 259 = .ok (.getfield 92, 3) := by decide +kernel
theorem dX11_bring_262 : decode cX11_bring 262 = .ok (.bipush 48, 2) := by decide +kernel
theorem dX11_bring_264 : decode cX11_bring 264 = .ok (.iload_n 2, 1) := by decide +kernel
theorem dX11_bring_265 : decode cX11_bring 265 = .ok (.imul, 1) := by decide +kernel
theorem dX11_bring_266 : decode cX11_bring 266 = .ok (.iload_n 3, 1) := by decide +kernel
theorem dX11_bring_267 : decode cX11_bring 267 = .ok (.iadd, 1) := by decide +kernel
theorem dX11_bring_268 : decode cX11_bring 268 = .ok (.aload_n 0, 1) := by decide +kernel
theorem dX11_bring_269 : decode cX11_bring 269 = .ok (.getfield 92, 3) := by decide +kernel
theorem dX11_bring_272 : decode cX11_bring 272 = .ok (.bipush 48, 2) := by decide +kernel
theorem dX11_bring_274 : decode cX11_bring 274 = .ok (.iload_n 1, 1) := by decide +kernel
theorem dX11_bring_275 : decode cX11_bring 275 = .ok (.imul, 1) := by decide +kernel
theorem dX11_bring_276 : decode cX11_bring 276 = .ok (.iload_n 3, 1) := by decide +kernel
theorem dX11_bring_277 : decode cX11_bring 277 = .ok (.iadd, 1) := by decide +kernel
theorem dX11_bring_278 : decode cX11_bring 278 = .ok (.iaload, 1) := by decide +kernel
theorem dX11_bring_279 : decode cX11_bring 279 = .ok (.iastore, 1) := by decide +kernel
theorem dX11_bring_280 : decode cX11_bring 280 = .ok (.iinc 3 1, 3) := by decide +kernel
theorem dX11_bring_283 : decode cX11_bring 283 = .ok (.goto (-53), 3) := by decide +kernel
theorem dX11_bring_286 : decode cX11_bring 286 = .ok (.iconst 0, 1) := by decide +kernel
theorem dX11_bring_287 : decode cX11_bring 287 = .ok (.istore_n 3, 1) := by decide +kernel
theorem dX11_bring_288 : decode cX11_bring 288 = .ok (.iload_n 3, 1) := by decide +kernel
theorem dX11_bring_289 : decode cX11_bring 289 = .ok (.sipush 144, 3) := by decide +kernel
theorem dX11_bring_292 : decode cX11_bring 292 = .ok (.if_icmp .ge 33, 3) := by decide +kernel
theorem dX11_bring_295 : decode cX11_bring 295 = .ok (.aload_n 0, 1) := by decide +kernel
theorem dX11_bring_296 : decode cX11_bring 296 = .ok (.getfield 95, 3) := by decide +kernel
theorem dX11_bring_299 : decode cX11_bring 299 = .ok (.sipush 144, 3) := by decide +kernel
theorem dX11_bring_302 : decode cX11_bring 302 = .ok (.iload_n 2, 1) := by decide +kernel
theorem dX11_bring_303 : decode cX11_bring 303 = .ok (.imul, 1) := by decide +kernel
theorem dX11_bring_304 : decode cX11_bring 304 = .ok (.iload_n 3, 1) := by decide +kernel
theorem dX11_bring_305 : decode cX11_bring 305 = .ok (.iadd, 1) := by decide +kernel
theorem dX11_bring_306 : decode cX11_bring 306 = .ok (.aload_n 0, 1) := by decide +kernel
theorem dX11_bring_307 : decode cX11_bring 307 = .ok (.getfield 95, 3) := by decide +kernel
theorem dX11_bring_310 : decode cX11_bring 310 = .ok (.sipush 144, 3) := by decide +kernel
theorem dX11_bring_313 : decode cX11_bring 313 = .ok (.iload_n 1, 1) := by decide +kernel
theorem dX11_bring_314 : decode cX11_bring 314 = .ok (.imul, 1) := by decide +kernel
theorem dX11_bring_315 : decode cX11_bring 315 = .ok (.iload_n 3, 1) := by decide +kernel
theorem dX11_bring_316 : decode cX11_bring 316 = .ok (.iadd, 1) := by decide +kernel
theorem dX11_bring_317 : decode cX11_bring 317 = .ok (.iaload, 1) := by decide +kernel
theorem dX11_bring_318 : decode cX11_bring 318 = .ok (.iastore, 1) := by decide +kernel
theorem dX11_bring_319 : decode cX11_bring 319 = .ok (.iinc 3 1, 3) := by decide +kernel
theorem dX11_bring_322 : decode cX11_bring 322 = .ok (.goto (-34), 3) := by decide +kernel
theorem dX11_bring_325 : decode cX11_bring 325 = .ok (.iconst 0, 1) := by decide +kernel
theorem dX11_bring_326 : decode cX11_bring 326 = .ok (.istore_n 3, 1) := by decide +kernel
theorem dX11_bring_327 : decode cX11_bring 327 = .ok (.iload_n 3, 1) := by decide +kernel
theorem dX11_bring_328 : decode cX11_bring 328 = .ok (.bipush 96, 2) := by decide +kernel
theorem dX11_bring_330 : decode cX11_bring 330 = .ok (.if_icmp .ge 53, 3) := by decide +kernel
theorem dX11_bring_333 : decode cX11_bring 333 = .ok (.aload_n 0, 1) := by decide +kernel
theorem dX11_bring_334 : decode cX11_bring 334 = .ok (.getfield 98, 3) := by decide +kernel
theorem dX11_bring_337 : decode cX11_bring 337 = .ok (.bipush 96, 2) := by decide +kernel
theorem dX11_bring_339 : decode cX11_bring 339 = .ok (.iload_n 2, 1) := by decide +kernel
theorem dX11_bring_340 : decode cX11_bring 340 = .ok (.imul, 1) := by decide +kernel
theorem dX11_bring_341 : decode cX11_bring 341 = .ok (.iload_n 3, 1) := by decide +kernel
theorem dX11_bring_342 : decode cX11_bring 342 = .ok (.iadd, 1) := by decide +kernel
theorem dX11_bring_343 : decode cX11_bring 343 = .ok (.aload_n 0, 1) := by decide +kernel
theorem dX11_bring_344 : decode cX11_bring 344 = .ok (.getfield 98, 3) := by decide +kernel
theorem dX11_bring_347 : decode cX11_bring 347 = .ok (.bipush 96, 2) := by decide +kernel
theorem dX11_bring_349 : decode cX11_bring 349 = .ok (.iload_n 1, 1) := by decide +kernel
theorem dX11_bring_350 : decode cX11_bring 350 = .ok (.imul, 1) := by decide +kernel
theorem dX11_bring_351 : decode cX11_bring 351 = .ok (.iload_n 3, 1) := by decide +kernel
theorem dX11_bring_352 : decode cX11_bring 352 = .ok (.iadd, 1) := by decide +kernel
theorem dX11_bring_353 : decode cX11_bring 353 = .ok (.iaload, 1) := by decide +kernel
theorem dX11_bring_354 : decode cX11_bring 354 = .ok (.iastore, 1) := by decide +kernel
theorem dX11_bring_355 : decode cX11_bring 355 = .ok (.aload_n 0, 1) := by decide +kernel
theorem dX11_bring_356 : decode cX11_bring 356 = .ok (.getfield 101, 3) := by decide +kernel
theorem dX11_bring_359 : decode cX11_bring 359 = .ok (.bipush 96, 2) := by decide +kernel
theorem dX11_bring_361 : decode cX11_bring 361 = .ok (.iload_n 2, 1) := by decide +kernel
theorem dX11_bring_362 : decode cX11_bring 362 = .ok (.imul, 1) := by decide +kernel
theorem dX11_bring_363 : decode cX11_bring 363 = .ok (.iload_n 3, 1) := by decide +kernel
theorem dX11_bring_364 : decode cX11_bring 364 = .ok (.iadd, 1) := by decide +kernel
theorem dX11_bring_365 : decode cX11_bring 365 = .ok (.aload_n 0, 1) := by decide +kernel
theorem dX11_bring_366 : decode cX11_bring 366 = .ok (.getfield 101, 3) := by decide +kernel
theorem dX11_bring_369 : decode cX11_bring 369 = .ok (.bipush 96, 2) := by decide +kernel
theorem dX11_bring_371 : decode cX11_bring 371 = .ok (.iload_n 1, 1) := by decide +kernel
theorem dX11_bring_372 : decode cX11_bring 372 = .ok (.imul, 1) := by decide +kernel
theorem dX11_bring_373 : decode cX11_bring 373 = .ok (.iload_n 3, 1) := by decide +kernel
theorem dX11_bring_374 : decode cX11_bring 374 = .ok (.iadd, 1) := by decide +kernel
theorem dX11_bring_375 : decode cX11_bring 375 = .ok (.baload, 1) := by decide +kernel
theorem dX11_bring_376 : decode cX11_bring 376 = .ok (.bastore, 1) := by decide +kernel
theorem dX11_bring_377 : decode cX11_bring 377 = .ok (.iinc 3 1, 3) := by decide +kernel
theorem dX11_bring_380 : decode cX11_bring 380 = .ok (.goto (-53), 3) := by decide +kernel
theorem dX11_bring_383 : decode cX11_bring 383 = .ok (.return_, 1) := by decide +kernel
theorem dX11_liesIn_0 : decode cX11_liesIn 0 = .ok (.iload_n 1, 1) := by decide +kernel
theorem dX11_liesIn_1 : decode cX11_liesIn 1 = .ok (.istore_n 3, 1) := by decide +kernel
theorem dX11_liesIn_2 : decode cX11_liesIn 2 = .ok (.aload_n 0, 1) := by decide +kernel
theorem dX11_liesIn_3 : decode cX11_liesIn 3 = .ok (.getfield 38, 3) := by decide +kernel
theorem dX11_liesIn_6 : decode cX11_liesIn 6 = .ok (.iload_n 3, 1) := by decide +kernel
theorem dX11_liesIn_7 : decode cX11_liesIn 7 = .ok (.iaload, 1) := by decide +kernel
theorem dX11_liesIn_8 : decode cX11_liesIn 8 = .ok (.iconst 2, 1) := by decide +kernel
theorem dX11_liesIn_9 : decode cX11_liesIn 9 = .ok (.if_icmp .ne 17, 3) := by decide +kernel
theorem dX11_liesIn_12 : decode cX11_liesIn 12 = .ok (.aload_n 0, 1) := by decide +kernel
theorem dX11_liesIn_13 : decode cX11_liesIn 13 = .ok (.getfield 105, 3) := by decide +kernel
theorem dX11_liesIn_16 : decode cX11_liesIn 16 = .ok (.iload_n 3, 1) := by decide +kernel
theorem dX11_liesIn_17 : decode cX11_liesIn 17 = .ok (.iaload, 1) := by decide +kernel
theorem dX11_liesIn_18 : decode cX11_liesIn 18 = .ok (.istore_n 3, 1) := by decide +kernel
theorem dX11_liesIn_19 : decode cX11_liesIn 19 = .ok (.iload_n 3, 1) := by decide +kernel
theorem dX11_liesIn_20 : decode cX11_liesIn 20 = .ok (.iload_n 2, 1) := by decide +kernel
theorem dX11_liesIn_21 : decode cX11_liesIn 21 = .ok (.if_icmp .ne (-19), 3) := by decide +kernel
theorem dX11_liesIn_24 : decode cX11_liesIn 24 = .ok (.iconst 1, 1) := by decide +kernel
theorem dX11_liesIn_25 : decode cX11_liesIn 25 = .ok (.ireturn, 1) := by decide +kernel
theorem dX11_liesIn_26 : decode cX11_liesIn 26 = .ok (.iconst 0, 1) := by decide +kernel
theorem dX11_liesIn_27 : decode cX11_liesIn 27 = .ok (.ireturn, 1) := by decide +kernel
set_option maxRecDepth 20000 in
theorem ggX11_keep_X11_isSix : GoodIn wsX11_keep wsX11_isSix := goodIn_r _ [5, 6, 7, 4, 8] (by decide +kernel) (by decide +kernel)
set_option maxRecDepth 20000 in
theorem gX11_keep_X11_isSix : GoodIn wsX11_keep (va_wsS RX11 186 yX11_isSix wsX11_isSix) := goodIn_app (goodIn_of _ (by decide +kernel)) ggX11_keep_X11_isSix
set_option maxRecDepth 20000 in
theorem ggX11_keep_X11_askedFor : GoodIn wsX11_keep wsX11_askedFor := goodIn_r _ [12, 1, 2, 3, 4, 5, 6, 7, 8, 13, 14, 15, 16, 17, 18, 65, 66, 67, 68, 69, 70, 71, 72, 73, 74, 75, 76, 77, 78, 79, 80, 81, 82, 83, 84, 85, 86, 87, 88, 89, 90, 91, 92, 93, 94, 95, 96, 97, 98, 99, 100, 101, 102, 103, 104, 105, 106, 107, 108, 109, 110, 111, 112, 113, 114, 115, 116, 117, 118, 119, 120, 121, 122, 123, 124, 125, 126, 127, 128, 129, 130] (by decide +kernel) (by decide +kernel)
set_option maxRecDepth 20000 in
theorem gX11_keep_X11_askedFor : GoodIn wsX11_keep (wsV RX11 237 RX11 yX11_askedFor wsX11_askedFor) := goodIn_app (goodIn_of _ (by decide +kernel)) ggX11_keep_X11_askedFor
set_option maxRecDepth 20000 in
theorem ggX11_keep_X11_liesIn : GoodIn wsX11_keep wsX11_liesIn := goodIn_r _ [22, 1, 23, 65, 66, 67, 68, 69, 70, 71, 72, 73, 74, 75, 76, 77, 78, 79, 80, 81, 82, 83, 84, 85, 86, 87, 88, 89, 90, 91, 92, 93, 94, 95, 96, 97, 98, 99, 100, 101, 102, 103, 104, 105, 106, 107, 108, 109, 110, 111, 112, 113, 114, 115, 116, 117, 118, 119, 120, 121, 122, 123, 124, 125, 126, 127, 128, 129, 130] (by decide +kernel) (by decide +kernel)
set_option maxRecDepth 20000 in
theorem gX11_keep_X11_liesIn : GoodIn wsX11_keep (wsV RX11 296 RX11 yX11_liesIn wsX11_liesIn) := goodIn_app (goodIn_of _ (by decide +kernel)) ggX11_keep_X11_liesIn
set_option maxRecDepth 20000 in
theorem ggX11_keep_X11_clear : GoodIn wsX11_keep wsX11_clear := goodIn_r _ [27, 1, 23, 28, 29, 65, 66, 67, 68, 69, 70, 71, 72, 73, 74, 75, 76, 77, 78, 79, 80, 81, 82, 83, 84, 85, 86, 87, 88, 89, 90, 91, 92, 93, 94, 95, 96, 97, 98, 99, 100, 101, 102, 103, 104, 105, 106, 107, 108, 109, 110, 111, 112, 113, 114, 115, 116, 117, 118, 119, 120, 121, 122, 123, 124, 125, 126, 127, 128, 129, 130] (by decide +kernel) (by decide +kernel)
set_option maxRecDepth 20000 in
theorem gX11_keep_X11_clear : GoodIn wsX11_keep (wsV RX11 229 RX11 yX11_clear wsX11_clear) := goodIn_app (goodIn_of _ (by decide +kernel)) ggX11_keep_X11_clear
set_option maxRecDepth 20000 in
theorem ggX11_keep_X11_bring : GoodIn wsX11_keep wsX11_bring := goodIn_r _ [33, 1, 34, 35, 36, 37, 38, 39, 40, 41, 42, 43, 44, 45, 46, 47, 48, 49, 50, 51, 52, 53, 54, 55, 56, 57, 4, 58, 59, 60, 65, 66, 67, 68, 69, 70, 71, 72, 73, 74, 75, 76, 77, 78, 79, 80, 81, 82, 83, 84, 85, 86, 87, 88, 89, 90, 91, 92, 93, 94, 95, 96, 97, 98, 99, 100, 101, 102, 103, 104, 105, 106, 107, 108, 109, 110, 111, 112, 113, 114, 115, 116, 117, 118, 119, 120, 121, 122, 123, 124, 125, 126, 127, 128, 129, 130] (by decide +kernel) (by decide +kernel)
set_option maxRecDepth 20000 in
theorem gX11_keep_X11_bring : GoodIn wsX11_keep (wsV RX11 299 RX11 yX11_bring wsX11_bring) := goodIn_app (goodIn_of _ (by decide +kernel)) ggX11_keep_X11_bring
set_option maxRecDepth 20000 in
theorem ggX11_keep_X11_cells : GoodIn wsX11_keep wsX11_cells := goodIn_r _ [64, 34, 35, 65, 66, 67, 68, 69, 70, 71, 72, 73, 74, 75, 76, 77, 78, 79, 80, 81, 82, 83, 84, 85, 86, 87, 88, 89, 90, 91, 92, 93, 94, 95, 96, 97, 98, 99, 100, 101, 102, 103, 104, 105, 106, 107, 108, 109, 110, 111, 112, 113, 114, 115, 116, 117, 118, 119, 120, 121, 122, 123, 124, 125, 126, 127, 128, 129, 130] (by decide +kernel) (by decide +kernel)
set_option maxRecDepth 20000 in
theorem gX11_keep_X11_cells : GoodIn wsX11_keep (wsV RX11 223 RX11 yX11_cells wsX11_cells) := goodIn_app (goodIn_of _ (by decide +kernel)) ggX11_keep_X11_cells
theorem dX11_keep_0 : decode cX11_keep 0 = .ok (.iload_n 2, 1) := by decide +kernel
theorem dX11_keep_1 : decode cX11_keep 1 = .ok (.invokestatic 186, 3) := by decide +kernel
theorem dX11_keep_4 : decode cX11_keep 4 = .ok (.ifCond .eq 8, 3) := by decide +kernel
theorem dX11_keep_7 : decode cX11_keep 7 = .ok (.iload_n 1, 1) := by decide +kernel
theorem dX11_keep_8 : decode cX11_keep 8 = .ok (.iload_n 2, 1) := by decide +kernel
theorem dX11_keep_9 : decode cX11_keep 9 = .ok (.if_icmp .ne 5, 3) := by decide +kernel
theorem dX11_keep_12 : decode cX11_keep 12 = .ok (.iconst (-1), 1) := by decide +kernel
theorem dX11_keep_13 : decode cX11_keep 13 = .ok (.ireturn, 1) := by decide +kernel
theorem dX11_keep_14 : decode cX11_keep 14 = .ok (.aload_n 0, 1) := by decide +kernel
theorem dX11_keep_15 : decode cX11_keep 15 = .ok (.iload_n 1, 1) := by decide +kernel
theorem dX11_keep_16 : decode cX11_keep 16 = .ok (.invokevirtual 237, 3) := by decide +kernel
theorem dX11_keep_19 : decode cX11_keep 19 = .ok (.istore_n 3, 1) := by decide +kernel
theorem dX11_keep_20 : decode cX11_keep 20 = .ok (.iload_n 3, 1) := by decide +kernel
theorem dX11_keep_21 : decode cX11_keep 21 = .ok (.ifCond .ge 5, 3) := by decide +kernel
theorem dX11_keep_24 : decode cX11_keep 24 = .ok (.iload_n 3, 1) := by decide +kernel
theorem dX11_keep_25 : decode cX11_keep 25 = .ok (.ireturn, 1) := by decide +kernel
theorem dX11_keep_26 : decode cX11_keep 26 = .ok (.aload_n 0, 1) := by decide +kernel
theorem dX11_keep_27 : decode cX11_keep 27 = .ok (.iload_n 1, 1) := by decide +kernel
theorem dX11_keep_28 : decode cX11_keep 28 = .ok (.iload_n 2, 1) := by decide +kernel
theorem dX11_keep_29 : decode cX11_keep 29 = .ok (.invokevirtual 296, 3) := by decide +kernel
theorem dX11_keep_32 : decode cX11_keep 32 = .ok (.ifCond .eq 6, 3) := by decide +kernel
theorem dX11_keep_35 : decode cX11_keep 35 = .ok (.bipush (-4), 2) := by decide +kernel
theorem dX11_keep_37 : decode cX11_keep 37 = .ok (.ireturn, 1) := by decide +kernel
theorem dX11_keep_38 : decode cX11_keep 38 = .ok (.aload_n 0, 1) := by decide +kernel
theorem dX11_keep_39 : decode cX11_keep 39 = .ok (.iload_n 2, 1) := by decide +kernel
theorem dX11_keep_40 : decode cX11_keep 40 = .ok (.invokevirtual 229, 3) := by decide +kernel
theorem dX11_keep_43 : decode cX11_keep 43 = .ok (.aload_n 0, 1) := by decide +kernel
theorem dX11_keep_44 : decode cX11_keep 44 = .ok (.iload_n 1, 1) := by decide +kernel
theorem dX11_keep_45 : decode cX11_keep 45 = .ok (.iload_n 2, 1) := by decide +kernel
theorem dX11_keep_46 : decode cX11_keep 46 = .ok (.invokevirtual 299, 3) := by decide +kernel
theorem dX11_keep_49 : decode cX11_keep 49 = .ok (.aload_n 0, 1) := by decide +kernel
theorem dX11_keep_50 : decode cX11_keep 50 = .ok (.getfield 38, 3) := by decide +kernel
theorem dX11_keep_53 : decode cX11_keep 53 = .ok (.iload_n 2, 1) := by decide +kernel
theorem dX11_keep_54 : decode cX11_keep 54 = .ok (.aload_n 0, 1) := by decide +kernel
theorem dX11_keep_55 : decode cX11_keep 55 = .ok (.getfield 38, 3) := by decide +kernel
theorem dX11_keep_58 : decode cX11_keep 58 = .ok (.iload_n 2, 1) := by decide +kernel
theorem dX11_keep_59 : decode cX11_keep 59 = .ok (.iaload, 1) := by decide +kernel
theorem dX11_keep_60 : decode cX11_keep 60 = .ok (.iconst 2, 1) := by decide +kernel
theorem dX11_keep_61 : decode cX11_keep 61 = .ok (.if_icmp .ne 7, 3) := by decide +kernel
theorem dX11_keep_64 : decode cX11_keep 64 = .ok (.iconst 0, 1) := by decide +kernel
theorem dX11_keep_65 : decode cX11_keep 65 = .ok (.goto 9, 3) := by decide +kernel
theorem dX11_keep_68 : decode cX11_keep 68 = .ok (.aload_n 0, 1) := by decide +kernel
theorem dX11_keep_69 : decode cX11_keep 69 = .ok (.getfield 38, 3) := by decide +kernel
theorem dX11_keep_72 : decode cX11_keep 72 = .ok (.iload_n 2, 1) := by decide +kernel
theorem dX11_keep_73 : decode cX11_keep 73 = .ok (.iaload, 1) := by decide +kernel
theorem dX11_keep_74 : decode cX11_keep 74 = .ok (.iastore, 1) := by decide +kernel
theorem dX11_keep_75 : decode cX11_keep 75 = .ok (.aload_n 0, 1) := by decide +kernel
theorem dX11_keep_76 : decode cX11_keep 76 = .ok (.iload_n 2, 1) := by decide +kernel
theorem dX11_keep_77 : decode cX11_keep 77 = .ok (.invokevirtual 223, 3) := by decide +kernel
theorem dX11_keep_80 : decode cX11_keep 80 = .ok (.ireturn, 1) := by decide +kernel
theorem dX11_turned_0 : decode cX11_turned 0 = .ok (.iload_n 2, 1) := by decide +kernel
theorem dX11_turned_1 : decode cX11_turned 1 = .ok (.aload_n 0, 1) := by decide +kernel
theorem dX11_turned_2 : decode cX11_turned 2 = .ok (.getfield 41, 3) := by decide +kernel
theorem dX11_turned_5 : decode cX11_turned 5 = .ok (.iload_n 1, 1) := by decide +kernel
theorem dX11_turned_6 : decode cX11_turned 6 = .ok (.iaload, 1) := by decide +kernel
theorem dX11_turned_7 : decode cX11_turned 7 = .ok (.idiv, 1) := by decide +kernel
theorem dX11_turned_8 : decode cX11_turned 8 = .ok (.aload_n 0, 1) := by decide +kernel
theorem dX11_turned_9 : decode cX11_turned 9 = .ok (.getfield 41, 3) := by decide +kernel
theorem dX11_turned_12 : decode cX11_turned 12 = .ok (.iload_n 1, 1) := by decide +kernel
theorem dX11_turned_13 : decode cX11_turned 13 = .ok (.iaload, 1) := by decide +kernel
theorem dX11_turned_14 : decode cX11_turned 14 = .ok (.imul, 1) := by decide +kernel
theorem dX11_turned_15 : decode cX11_turned 15 = .ok (.aload_n 0, 1) := by decide +kernel
theorem dX11_turned_16 : decode cX11_turned 16 = .ok (.getfield 41, 3) := by decide +kernel
theorem dX11_turned_19 : decode cX11_turned 19 = .ok (.iload_n 1, 1) := by decide +kernel
theorem dX11_turned_20 : decode cX11_turned 20 = .ok (.iaload, 1) := by decide +kernel
theorem dX11_turned_21 : decode cX11_turned 21 = .ok (.iadd, 1) := by decide +kernel
theorem dX11_turned_22 : decode cX11_turned 22 = .ok (.iconst 1, 1) := by decide +kernel
theorem dX11_turned_23 : decode cX11_turned 23 = .ok (.isub, 1) := by decide +kernel
theorem dX11_turned_24 : decode cX11_turned 24 = .ok (.iload_n 2, 1) := by decide +kernel
theorem dX11_turned_25 : decode cX11_turned 25 = .ok (.aload_n 0, 1) := by decide +kernel
theorem dX11_turned_26 : decode cX11_turned 26 = .ok (.getfield 41, 3) := by decide +kernel
theorem dX11_turned_29 : decode cX11_turned 29 = .ok (.iload_n 1, 1) := by decide +kernel
theorem dX11_turned_30 : decode cX11_turned 30 = .ok (.iaload, 1) := by decide +kernel
theorem dX11_turned_31 : decode cX11_turned 31 = .ok (.irem, 1) := by decide +kernel
theorem dX11_turned_32 : decode cX11_turned 32 = .ok (.isub, 1) := by decide +kernel
theorem dX11_turned_33 : decode cX11_turned 33 = .ok (.ireturn, 1) := by decide +kernel
set_option maxRecDepth 20000 in
theorem ggX11_mirror_X11_askedFor : GoodIn wsX11_mirror wsX11_askedFor := goodIn_r _ [20, 1, 21, 22, 19, 23, 24, 25, 26, 27, 28, 29, 30, 31, 32, 63, 64, 65, 66, 67, 68, 69, 70, 71, 72, 73, 74, 75, 76, 77, 78, 79, 80, 81, 82, 83, 84, 85, 86, 87, 88, 89, 90, 91, 92, 93, 94, 95, 96, 97, 98, 99, 100, 101, 102, 103, 104, 105, 106, 107, 108, 109, 110, 111, 112, 113, 114, 115, 116, 117, 118, 119, 120, 121, 122, 123, 124, 125, 126, 127, 128] (by decide +kernel) (by decide +kernel)
set_option maxRecDepth 20000 in
theorem gX11_mirror_X11_askedFor : GoodIn wsX11_mirror (wsV RX11 237 RX11 yX11_askedFor wsX11_askedFor) := goodIn_app (goodIn_of _ (by decide +kernel)) ggX11_mirror_X11_askedFor
set_option maxRecDepth 20000 in
theorem ggX11_mirror_X11_meets : GoodIn wsX11_mirror wsX11_meets := goodIn_r _ [30, 31, 32, 63, 64, 65, 66, 67, 68, 69, 70, 71, 72, 73, 74, 75, 76, 77, 78, 79, 80, 81, 82, 83, 84, 85, 86, 87, 88, 89, 90, 91, 92, 93, 94, 95, 96, 97, 98, 99, 100, 101, 102, 103, 104, 105, 106, 107, 108, 109, 110, 111, 112, 113, 114, 115, 116, 117, 118, 119, 120, 121, 122, 123, 124, 125, 126, 127, 128] (by decide +kernel) (by decide +kernel)
set_option maxRecDepth 20000 in
theorem gX11_mirror_X11_meets : GoodIn wsX11_mirror (wsV RX11 190 RX11 yX11_meets wsX11_meets) := goodIn_app (goodIn_of _ (by decide +kernel)) ggX11_mirror_X11_meets
set_option maxRecDepth 20000 in
theorem ggX11_mirror_X11_bring : GoodIn wsX11_mirror wsX11_bring := goodIn_r _ [36, 1, 8, 37, 38, 39, 9, 40, 41, 42, 43, 44, 45, 10, 46, 11, 47, 48, 3, 4, 5, 6, 7, 49, 50, 51, 19, 52, 53, 54, 63, 64, 65, 66, 67, 68, 69, 70, 71, 72, 73, 74, 75, 76, 77, 78, 79, 80, 81, 82, 83, 84, 85, 86, 87, 88, 89, 90, 91, 92, 93, 94, 95, 96, 97, 98, 99, 100, 101, 102, 103, 104, 105, 106, 107, 108, 109, 110, 111, 112, 113, 114, 115, 116, 117, 118, 119, 120, 121, 122, 123, 124, 125, 126, 127, 128] (by decide +kernel) (by decide +kernel)
set_option maxRecDepth 20000 in
theorem gX11_mirror_X11_bring : GoodIn wsX11_mirror (wsV RX11 299 RX11 yX11_bring wsX11_bring) := goodIn_app (goodIn_of _ (by decide +kernel)) ggX11_mirror_X11_bring
set_option maxRecDepth 20000 in
theorem ggX11_mirror_X11_cells : GoodIn wsX11_mirror wsX11_cells := goodIn_r _ [58, 8, 37, 63, 64, 65, 66, 67, 68, 69, 70, 71, 72, 73, 74, 75, 76, 77, 78, 79, 80, 81, 82, 83, 84, 85, 86, 87, 88, 89, 90, 91, 92, 93, 94, 95, 96, 97, 98, 99, 100, 101, 102, 103, 104, 105, 106, 107, 108, 109, 110, 111, 112, 113, 114, 115, 116, 117, 118, 119, 120, 121, 122, 123, 124, 125, 126, 127, 128] (by decide +kernel) (by decide +kernel)
set_option maxRecDepth 20000 in
theorem gX11_mirror_X11_cells : GoodIn wsX11_mirror (wsV RX11 223 RX11 yX11_cells wsX11_cells) := goodIn_app (goodIn_of _ (by decide +kernel)) ggX11_mirror_X11_cells
set_option maxRecDepth 20000 in
theorem ggX11_mirror_X11_turned : GoodIn wsX11_mirror wsX11_turned := goodIn_r _ [62, 8, 63, 64, 65, 66, 67, 68, 69, 70, 71, 72, 73, 74, 75, 76, 77, 78, 79, 80, 81, 82, 83, 84, 85, 86, 87, 88, 89, 90, 91, 92, 93, 94, 95, 96, 97, 98, 99, 100, 101, 102, 103, 104, 105, 106, 107, 108, 109, 110, 111, 112, 113, 114, 115, 116, 117, 118, 119, 120, 121, 122, 123, 124, 125, 126, 127, 128] (by decide +kernel) (by decide +kernel)
set_option maxRecDepth 20000 in
theorem gX11_mirror_X11_turned : GoodIn wsX11_mirror (wsV RX11 302 RX11 yX11_turned wsX11_turned) := goodIn_app (goodIn_of _ (by decide +kernel)) ggX11_mirror_X11_turned
theorem dX11_mirror_0 : decode cX11_mirror 0 = .ok (.aload_n 0, 1) := by decide +kernel
theorem dX11_mirror_1 : decode cX11_mirror 1 = .ok (.iload_n 1, 1) := by decide +kernel
theorem dX11_mirror_2 : decode cX11_mirror 2 = .ok (.invokevirtual 237, 3) := by decide +kernel
theorem dX11_mirror_5 : decode cX11_mirror 5 = .ok (.istore_n 2, 1) := by decide +kernel
theorem dX11_mirror_6 : decode cX11_mirror 6 = .ok (.iload_n 2, 1) := by decide +kernel
theorem dX11_mirror_7 : decode cX11_mirror 7 = .ok (.ifCond .ge 5, 3) := by decide +kernel
theorem dX11_mirror_10 : decode cX11_mirror 10 = .ok (.iload_n 2, 1) := by decide +kernel
theorem dX11_mirror_11 : decode cX11_mirror 11 = .ok (.ireturn, 1) := by decide +kernel
theorem dX11_mirror_12 : decode cX11_mirror 12 = .ok (.aload_n 0, 1) := by decide +kernel
theorem dX11_mirror_13 : decode cX11_mirror 13 = .ok (.getfield 38, 3) := by decide +kernel
theorem dX11_mirror_16 : decode cX11_mirror 16 = .ok (.iload_n 1, 1) := by decide +kernel
theorem dX11_mirror_17 : decode cX11_mirror 17 = .ok (.iaload, 1) := by decide +kernel
theorem dX11_mirror_18 : decode cX11_mirror 18 = .ok (.iconst 2, 1) := by decide +kernel
theorem dX11_mirror_19 : decode cX11_mirror 19 = .ok (.if_icmp .ne 9, 3) := by decide +kernel
theorem dX11_mirror_22 : decode cX11_mirror 22 = .ok (.aload_n 0, 1) := by decide +kernel
theorem dX11_mirror_23 : decode cX11_mirror 23 = .ok (.iconst 3, 1) := by decide +kernel
theorem dX11_mirror_24 : decode cX11_mirror 24 = .ok (.invokevirtual 190, 3) := by decide +kernel
theorem dX11_mirror_27 : decode cX11_mirror 27 = .ok (.ireturn, 1) := by decide +kernel
theorem dX11_mirror_28 : decode cX11_mirror 28 = .ok (.iconst 0, 1) := by decide +kernel
theorem dX11_mirror_29 : decode cX11_mirror 29 = .ok (.istore_n 3, 1) := by decide +kernel
theorem dX11_mirror_30 : decode cX11_mirror 30 = .ok (.iload_n 3, 1) := by decide +kernel
theorem dX11_mirror_31 : decode cX11_mirror 31 = .ok (.bipush 6, 2) := by decide +kernel
theorem dX11_mirror_33 : decode cX11_mirror 33 = .ok (.if_icmp .ge 32, 3) := by decide +kernel
theorem dX11_mirror_36 : decode cX11_mirror 36 = .ok (.aload_n 0, 1) := by decide +kernel
theorem dX11_mirror_37 : decode cX11_mirror 37 = .ok (.getfield 38, 3) := by decide +kernel
theorem dX11_mirror_40 : decode cX11_mirror 40 = .ok (.iload_n 3, 1) := by decide +kernel
theorem dX11_mirror_41 : decode cX11_mirror 41 = .ok (.iaload, 1) := by decide +kernel
theorem dX11_mirror_42 : decode cX11_mirror 42 = .ok (.iconst 2, 1) := by decide +kernel
theorem dX11_mirror_43 : decode cX11_mirror 43 = .ok (.if_icmp .ne 16, 3) := by decide +kernel
theorem dX11_mirror_46 : decode cX11_mirror 46 = .ok (.aload_n 0, 1) := by decide +kernel
theorem dX11_mirror_47 : decode cX11_mirror 47 = .ok (.getfield 105, 3) := by decide +kernel
theorem dX11_mirror_50 : decode cX11_mirror 50 = .ok (.iload_n 3, 1) := by decide +kernel
theorem dX11_mirror_51 : decode cX11_mirror 51 = .ok (.iaload, 1) := by decide +kernel
theorem dX11_mirror_52 : decode cX11_mirror 52 = .ok (.iload_n 1, 1) := by decide +kernel
theorem dX11_mirror_53 : decode cX11_mirror 53 = .ok (.if_icmp .ne 6, 3) := by decide +kernel
theorem dX11_mirror_56 : decode cX11_mirror 56 = .ok (.bipush (-4), 2) := by decide +kernel
theorem dX11_mirror_58 : decode cX11_mirror 58 = .ok (.ireturn, 1) := by decide +kernel
theorem dX11_mirror_59 : decode cX11_mirror 59 = .ok (.iinc 3 1, 3) := by decide +kernel
theorem dX11_mirror_62 : decode cX11_mirror 62 = .ok (.goto (-32), 3) := by decide +kernel
theorem dX11_mirror_65 : decode cX11_mirror 65 = .ok (.aload_n 0, 1) := by decide +kernel
theorem dX11_mirror_66 : decode cX11_mirror 66 = .ok (.iload_n 1, 1) := by decide +kernel
theorem dX11_mirror_67 : decode cX11_mirror 67 = .ok (.bipush 6, 2) := by decide +kernel
theorem dX11_mirror_69 : decode cX11_mirror 69 = .ok (.invokevirtual 299, 3) := by decide +kernel
theorem dX11_mirror_72 : decode cX11_mirror 72 = .ok (.iconst 0, 1) := by decide +kernel
theorem dX11_mirror_73 : decode cX11_mirror 73 = .ok (.istore_n 3, 1) := by decide +kernel
theorem dX11_mirror_74 : decode cX11_mirror 74 = .ok (.iload_n 3, 1) := by decide +kernel
theorem dX11_mirror_75 : decode cX11_mirror 75 = .ok (.aload_n 0, 1) := by decide +kernel
theorem dX11_mirror_76 : decode cX11_mirror 76 = .ok (.iload_n 1, 1) := by decide +kernel
theorem dX11_mirror_77 : decode cX11_mirror 77 = .ok (.invokevirtual 223, 3) := by decide +kernel
theorem dX11_mirror_80 : decode cX11_mirror 80 = .ok (.if_icmp .ge 247, 3) := by decide +kernel
theorem dX11_mirror_83 : decode cX11_mirror 83 = .ok (.aload_n 0, 1) := by decide +kernel
theorem dX11_mirror_84 : decode cX11_mirror 84 = .ok (.iload_n 1, 1) := by decide +kernel
theorem dX11_mirror_85 : decode cX11_mirror 85 = .ok (.iload_n 3, 1) := by decide +kernel
theorem dX11_mirror_86 : decode cX11_mirror 86 = .ok (.invokevirtual 302, 3) := by decide +kernel
theorem dX11_mirror_89 : decode cX11_mirror 89 = .ok (.istore 4, 2) := by decide +kernel
theorem dX11_mirror_91 : decode cX11_mirror 91 = .ok (.aload_n 0, 1) := by decide +kernel
theorem dX11_mirror_92 : decode cX11_mirror 92 = .ok (.getfield 89, 3) := by decide +kernel
theorem dX11_mirror_95 : decode cX11_mirror 95 = .ok (.bipush 48, 2) := by decide +kernel
theorem dX11_mirror_97 : decode cX11_mirror 97 = .ok (.iload_n 1, 1) := by decide +kernel
theorem dX11_mirror_98 : decode cX11_mirror 98 = .ok (.imul, 1) := by decide +kernel
theorem dX11_mirror_99 : decode cX11_mirror 99 = .ok (.iload 4, 2) := by decide +kernel
theorem dX11_mirror_101 : decode cX11_mirror 101 = .ok (.iadd, 1) := by decide +kernel
theorem dX11_mirror_102 : decode cX11_mirror 102 = .ok (.aload_n 0, 1) := by decide +kernel
theorem dX11_mirror_103 : decode cX11_mirror 103 = .ok (.getfield 89, 3) := by decide +kernel
theorem dX11_mirror_106 : decode cX11_mirror 106 = .ok (.sipush 288, 3) := by decide +kernel
theorem dX11_mirror_109 : decode cX11_mirror 109 = .ok (.iload_n 3, 1) := by decide +kernel
theorem dX11_mirror_110 : decode cX11_mirror 110 = .ok (.iadd, 1) := by decide +kernel
theorem dX11_mirror_111 : decode cX11_mirror 111 = .ok (.iaload, 1) := by decide +kernel
theorem dX11_mirror_112 : decode cX11_mirror 112 = .ok (.iastore, 1) := by decide +kernel
theorem dX11_mirror_113 : decode cX11_mirror 113 = .ok (.aload_n 0, 1) := by decide +kernel
theorem dX11_mirror_114 : decode cX11_mirror 114 = .ok (.getfield 92, 3) := by decide +kernel
theorem dX11_mirror_117 : decode cX11_mirror 117 = .ok (.bipush 48, 2) := by decide +kernel
theorem dX11_mirror_119 : decode cX11_mirror 119 = .ok (.iload_n 1, 1) := by decide +kernel
theorem dX11_mirror_120 : decode cX11_mirror 120 = .ok (.imul, 1) := by decide +kernel
theorem dX11_mirror_121 : decode cX11_mirror 121 = .ok (.iload 4, 2) := by decide +kernel
theorem dX11_mirror_123 : decode cX11_mirror 123 = .ok (.iadd, 1) := by decide +kernel
theorem dX11_mirror_124 : decode cX11_mirror 124 = .ok (.aload_n 0, 1) := by decide +kernel
theorem dX11_mirror_125 : decode cX11_mirror 125 = .ok (.getfield 92, 3) := by decide +kernel
theorem dX11_mirror_128 : decode cX11_mirror 128 = .ok (.sipush 288, 3) := by decide +kernel
theorem dX11_mirror_131 : decode cX11_mirror 131 = .ok (.iload_n 3, 1) := by decide +kernel
theorem dX11_mirror_132 : decode cX11_mirror 132 = .ok (.iadd, 1) := by decide +kernel
theorem dX11_mirror_133 : decode cX11_mirror 133 = .ok (.iaload, 1) := by decide +kernel
theorem dX11_mirror_134 : decode cX11_mirror 134 = .ok (.iastore, 1) := by decide +kernel
theorem dX11_mirror_135 : decode cX11_mirror 135 = .ok (.iconst 0, 1) := by decide +kernel
theorem dX11_mirror_136 : decode cX11_mirror 136 = .ok (.istore 5, 2) := by decide +kernel
theorem dX11_mirror_138 : decode cX11_mirror 138 = .ok (.iload 5, 2) := by decide +kernel
theorem dX11_mirror_140 : decode cX11_mirror 140 = .ok (.iconst 3, 1) := by decide +kernel
theorem dX11_mirror_141 : decode cX11_mirror 141 = .ok (.if_icmp .ge 44, 3) := by decide +kernel
theorem dX11_mirror_144 : decode cX11_mirror 144 = .ok (.aload_n 0, 1) := by decide +kernel
theorem dX11_mirror_145 : decode cX11_mirror 145 = .ok (.getfield 95, 3) := by decide +kernel
theorem dX11_mirror_148 : decode cX11_mirror 148 = .ok (.sipush 144, 3) := by decide +kernel
theorem dX11_mirror_151 : decode cX11_mirror 151 = .ok (.iload_n 1, 1) := by decide +kernel
theorem dX11_mirror_152 : decode cX11_mirror 152 = .ok (.imul, 1) := by decide +kernel
theorem dX11_mirror_153 : decode cX11_mirror 153 = .ok (.bipush 48, 2) := by decide +kernel
theorem dX11_mirror_155 : decode cX11_mirror 155 = .ok (.iload 5, 2) := by decide +kernel
theorem dX11_mirror_157 : decode cX11_mirror 157 = .ok (.imul, 1) := by decide +kernel
theorem dX11_mirror_158 : decode cX11_mirror 158 = .ok (.iadd, 1) := by decide +kernel
theorem dX11_mirror_159 : decode cX11_mirror 159 = .ok (.iload 4, 2) := by decide +kernel
theorem dX11_mirror_161 : decode cX11_mirror 161 = .ok (.iadd, 1) := by decide +kernel
theorem dX11_mirror_162 : decode cX11_mirror 162 = .ok (.aload_n 0, 1) := by decide +kernel
theorem dX11_mirror_163 : decode cX11_mirror 163 = .ok (.getfield 95, 3) := by decide +kernel
theorem dX11_mirror_166 : decode cX11_mirror 166 = .ok (.sipush 864, 3) := by decide +kernel
theorem dX11_mirror_169 : decode cX11_mirror 169 = .ok (.bipush 48, 2) := by decide +kernel
theorem dX11_mirror_171 : decode cX11_mirror 171 = .ok (.iload 5, 2) := by decide +kernel
theorem dX11_mirror_173 : decode cX11_mirror 173 = .ok (.imul, 1) := by decide +kernel
theorem dX11_mirror_174 : decode cX11_mirror 174 = .ok (.iadd, 1) := by decide +kernel
theorem dX11_mirror_175 : decode cX11_mirror 175 = .ok (.iload_n 3, 1) := by decide +kernel
theorem dX11_mirror_176 : decode cX11_mirror 176 = .ok (.iadd, 1) := by decide +kernel
theorem dX11_mirror_177 : decode cX11_mirror 177 = .ok (.iaload, 1) := by decide +kernel
theorem dX11_mirror_178 : decode cX11_mirror 178 = .ok (.iastore, 1) := by decide +kernel
theorem dX11_mirror_179 : decode cX11_mirror 179 = .ok (.iinc 5 1, 3) := by decide +kernel
theorem dX11_mirror_182 : decode cX11_mirror 182 = .ok (.goto (-44), 3) := by decide +kernel
theorem dX11_mirror_185 : decode cX11_mirror 185 = .ok (.aload_n 0, 1) := by decide +kernel
theorem dX11_mirror_186 : decode cX11_mirror 186 = .ok (.getfield 98, 3) := by decide +kernel
theorem dX11_mirror_189 : decode cX11_mirror 189 = .ok (.bipush 96, 2) := by decide +kernel
theorem dX11_mirror_191 : decode cX11_mirror 191 = .ok (.iload_n 1, 1) := by decide +kernel
theorem dX11_mirror_192 : decode cX11_mirror 192 = .ok (.imul, 1) := by decide +kernel
theorem dX11_mirror_193 : decode cX11_mirror 193 = .ok (.iconst 2, 1) := by decide +kernel
theorem dX11_mirror_194 : decode cX11_mirror 194 = .ok (.iload 4, 2) := by decide +kernel
theorem dX11_mirror_196 : decode cX11_mirror 196 = .ok (.imul, 1) := by decide +kernel
theorem dX11_mirror_197 : decode cX11_mirror 197 = .ok (.iadd, 1) := by decide +kernel
theorem dX11_mirror_198 : decode cX11_mirror 198 = .ok (.iconst 1, 1) := by decide +kernel
theorem dX11_mirror_199 : decode cX11_mirror 199 = .ok (.iadd, 1) := by decide +kernel
theorem dX11_mirror_200 : decode cX11_mirror 200 = .ok (.aload_n 0, 1) := by decide +kernel
theorem dX11_mirror_201 : decode cX11_mirror 201 = .ok (.getfield 98, 3) := by decide +kernel
theorem dX11_mirror_204 : decode cX11_mirror 204 = .ok (.sipush 576, 3) := by decide +kernel
theorem dX11_mirror_207 : decode cX11_mirror 207 = .ok (.iconst 2, 1) := by decide +kernel
theorem dX11_mirror_208 : decode cX11_mirror 208 = .ok (.iload_n 3, 1) := by decide +kernel
theorem dX11_mirror_209 : decode cX11_mirror 209 = .ok (.imul, 1) := by decide +kernel
theorem dX11_mirror_210 : decode cX11_mirror 210 = .ok (.iadd, 1) := by decide +kernel
theorem dX11_mirror_211 : decode cX11_mirror 211 = .ok (.iconst 1, 1) := by decide +kernel
theorem dX11_mirror_212 : decode cX11_mirror 212 = .ok (.iadd, 1) := by decide +kernel
theorem dX11_mirror_213 : decode cX11_mirror 213 = .ok (.iaload, 1) := by decide +kernel
theorem dX11_mirror_214 : decode cX11_mirror 214 = .ok (.iastore, 1) := by decide +kernel
theorem dX11_mirror_215 : decode cX11_mirror 215 = .ok (.aload_n 0, 1) := by decide +kernel
theorem dX11_mirror_216 : decode cX11_mirror 216 = .ok (.getfield 101, 3) := by decide +kernel
theorem dX11_mirror_219 : decode cX11_mirror 219 = .ok (.bipush 96, 2) := by decide +kernel
theorem dX11_mirror_221 : decode cX11_mirror 221 = .ok (.iload_n 1, 1) := by decide +kernel
theorem dX11_mirror_222 : decode cX11_mirror 222 = .ok (.imul, 1) := by decide +kernel
theorem dX11_mirror_223 : decode cX11_mirror 223 = .ok (.iconst 2, 1) := by decide +kernel
theorem dX11_mirror_224 : decode cX11_mirror 224 = .ok (.iload 4, 2) := by decide +kernel
theorem dX11_mirror_226 : decode cX11_mirror 226 = .ok (.imul, 1) := by decide +kernel
theorem dX11_mirror_227 : decode cX11_mirror 227 = .ok (.iadd, 1) := by decide +kernel
theorem dX11_mirror_228 : decode cX11_mirror 228 = .ok (.iconst 1, 1) := by decide +kernel
theorem dX11_mirror_229 : decode cX11_mirror 229 = .ok (.iadd, 1) := by decide +kernel
theorem dX11_mirror_230 : decode cX11_mirror 230 = .ok (.aload_n 0, 1) := by decide +kernel
theorem dX11_mirror_231 : decode cX11_mirror 231 = .ok (.getfield 101, 3) := by decide +kernel
theorem dX11_mirror_234 : decode cX11_mirror 234 = .ok (.sipush 576, 3) := by decide +kernel
theorem dX11_mirror_237 : decode cX11_mirror 237 = .ok (.iconst 2, 1) := by decide +kernel
theorem dX11_mirror_238 : decode cX11_mirror 238 = .ok (.iload_n 3, 1) := by decide +kernel
theorem dX11_mirror_239 : decode cX11_mirror 239 = .ok (.imul, 1) := by decide +kernel
theorem dX11_mirror_240 : decode cX11_mirror 240 = .ok (.iadd, 1) := by decide +kernel
theorem dX11_mirror_241 : decode cX11_mirror 241 = .ok (.iconst 1, 1) := by decide +kernel
theorem dX11_mirror_242 : decode cX11_mirror 242 = .ok (.iadd, 1) := by decide +kernel
theorem dX11_mirror_243 : decode cX11_mirror 243 = .ok (.baload, 1) := by decide +kernel
theorem dX11_mirror_244 : decode cX11_mirror 244 = .ok (.bastore, 1) := by decide +kernel
theorem dX11_mirror_245 : decode cX11_mirror 245 = .ok (.iload_n 3, 1) := by decide +kernel
theorem dX11_mirror_246 : decode cX11_mirror 246 = .ok (.aload_n 0, 1) := by decide +kernel
theorem dX11_mirror_247 : decode cX11_mirror 247 = .ok (.getfield 41, 3) := by decide +kernel
theorem dX11_mirror_250 : decode cX11_mirror 250 = .ok (.iload_n 1, 1) := by decide +kernel
theorem dX11_mirror_251 : decode cX11_mirror 251 = .ok (.iaload, 1) := by decide +kernel
theorem dX11_mirror_252 : decode cX11_mirror 252 = .ok (.irem, 1) := by decide +kernel
theorem dX11_mirror_253 : decode cX11_mirror 253 = .ok (.iconst 1, 1) := by decide +kernel
theorem dX11_mirror_254 : decode cX11_mirror 254 = .ok (.iadd, 1) := by decide +kernel
theorem dX11_mirror_255 : decode cX11_mirror 255 = .ok (.aload_n 0, 1) := by decide +kernel
theorem dX11_mirror_256 : decode cX11_mirror 256 = .ok (.getfield 41, 3) := by decide +kernel
theorem dX11_mirror_259 : decode cX11_mirror 259 = .ok (.iload_n 1, 1) := by decide +kernel
theorem dX11_mirror_260 : decode cX11_mirror 260 = .ok (.iaload, 1) := by decide +kernel
theorem dX11_mirror_261 : decode cX11_mirror 261 = .ok (.if_icmp .ge 60, 3) := by decide +kernel
theorem dX11_mirror_264 : decode cX11_mirror 264 = .ok (.aload_n 0, 1) := by decide +kernel
theorem dX11_mirror_265 : decode cX11_mirror 265 = .ok (.getfield 98, 3) := by decide +kernel
theorem dX11_mirror_268 : decode cX11_mirror 268 = .ok (.bipush 96, 2) := by decide +kernel
theorem dX11_mirror_270 : decode cX11_mirror 270 = .ok (.iload_n 1, 1) := by decide +kernel
theorem dX11_mirror_271 : decode cX11_mirror 271 = .ok (.imul, 1) := by decide +kernel
theorem dX11_mirror_272 : decode cX11_mirror 272 = .ok (.iconst 2, 1) := by decide +kernel
theorem dX11_mirror_273 : decode cX11_mirror 273 = .ok (.iload 4, 2) := by decide +kernel
theorem dX11_mirror_275 : decode cX11_mirror 275 = .ok (.imul, 1) := by decide +kernel
theorem dX11_mirror_276 : decode cX11_mirror 276 = .ok (.iadd, 1) := by decide +kernel
theorem dX11_mirror_277 : decode cX11_mirror 277 = .ok (.iconst 2, 1) := by decide +kernel
theorem dX11_mirror_278 : decode cX11_mirror 278 = .ok (.isub, 1) := by decide +kernel
theorem dX11_mirror_279 : decode cX11_mirror 279 = .ok (.aload_n 0, 1) := by decide +kernel
theorem dX11_mirror_280 : decode cX11_mirror 280 = .ok (.getfield 98, 3) := by decide +kernel
theorem dX11_mirror_283 : decode cX11_mirror 283 = .ok (.sipush 576, 3) := by decide +kernel
theorem dX11_mirror_286 : decode cX11_mirror 286 = .ok (.iconst 2, 1) := by decide +kernel
theorem dX11_mirror_287 : decode cX11_mirror 287 = .ok (.iload_n 3, 1) := by decide +kernel
theorem dX11_mirror_288 : decode cX11_mirror 288 = .ok (.imul, 1) := by decide +kernel
theorem dX11_mirror_289 : decode cX11_mirror 289 = .ok (.iadd, 1) := by decide +kernel
theorem dX11_mirror_290 : decode cX11_mirror 290 = .ok (.iaload, 1) := by decide +kernel
theorem dX11_mirror_291 : decode cX11_mirror 291 = .ok (.ineg, 1) := by decide +kernel
theorem dX11_mirror_292 : decode cX11_mirror 292 = .ok (.iastore, 1) := by decide +kernel
theorem dX11_mirror_293 : decode cX11_mirror 293 = .ok (.aload_n 0, 1) := by decide +kernel
theorem dX11_mirror_294 : decode cX11_mirror 294 = .ok (.getfield 101, 3) := by decide +kernel
theorem dX11_mirror_297 : decode cX11_mirror 297 = .ok (.bipush 96, 2) := by decide +kernel
theorem dX11_mirror_299 : decode cX11_mirror 299 = .ok (.iload_n 1, 1) := by decide +kernel
theorem dX11_mirror_300 : decode cX11_mirror 300 = .ok (.imul, 1) := by decide +kernel
theorem dX11_mirror_301 : decode cX11_mirror 301 = .ok (.iconst 2, 1) := by decide +kernel
theorem dX11_mirror_302 : decode cX11_mirror 302 = .ok (.iload 4, 2) := by decide +kernel
theorem dX11_mirror_304 : decode cX11_mirror 304 = .ok (.imul, 1) := by decide +kernel
theorem dX11_mirror_305 : decode cX11_mirror 305 = .ok (.iadd, 1) := by decide +kernel
theorem dX11_mirror_306 : decode cX11_mirror 306 = .ok (.iconst 2, 1) := by decide +kernel
theorem dX11_mirror_307 : decode cX11_mirror 307 = .ok (.isub, 1) := by decide +kernel
theorem dX11_mirror_308 : decode cX11_mirror 308 = .ok (.aload_n 0, 1) := by decide +kernel
theorem dX11_mirror_309 : decode cX11_mirror 309 = .ok (.getfield 101, 3) := by decide +kernel
theorem dX11_mirror_312 : decode cX11_mirror 312 = .ok (.sipush 576, 3) := by decide +kernel
theorem dX11_mirror_315 : decode cX11_mirror 315 = .ok (.iconst 2, 1) := by decide +kernel
theorem dX11_mirror_316 : decode cX11_mirror 316 = .ok (.iload_n 3, 1) := by decide +kernel
theorem dX11_mirror_317 : decode cX11_mirror 317 = .ok (.imul, 1) := by decide +kernel
theorem dX11_mirror_318 : decode cX11_mirror 318 = .ok (.iadd, 1) := by decide +kernel
theorem dX11_mirror_319 : decode cX11_mirror 319 = .ok (.baload, 1) := by decide +kernel
theorem dX11_mirror_320 : decode cX11_mirror 320 = .ok (.bastore, 1) := by decide +kernel
theorem dX11_mirror_321 : decode cX11_mirror 321 = .ok (.iinc 3 1, 3) := by decide +kernel
theorem dX11_mirror_324 : decode cX11_mirror 324 = .ok (.goto (-250), 3) := by decide +kernel
theorem dX11_mirror_327 : decode cX11_mirror 327 = .ok (.aload_n 0, 1) := by decide +kernel
theorem dX11_mirror_328 : decode cX11_mirror 328 = .ok (.getfield 38, 3) := by decide +kernel
theorem dX11_mirror_331 : decode cX11_mirror 331 = .ok (.bipush 6, 2) := by decide +kernel
theorem dX11_mirror_333 : decode cX11_mirror 333 = .ok (.bipush (-9), 2) := by decide +kernel
theorem dX11_mirror_335 : decode cX11_mirror 335 = .ok (.iastore, 1) := by decide +kernel
theorem dX11_mirror_336 : decode cX11_mirror 336 = .ok (.aload_n 0, 1) := by decide +kernel
theorem dX11_mirror_337 : decode cX11_mirror 337 = .ok (.getfield 53, 3) := by decide +kernel
theorem dX11_mirror_340 : decode cX11_mirror 340 = .ok (.iload_n 1, 1) := by decide +kernel
theorem dX11_mirror_341 : decode cX11_mirror 341 = .ok (.aload_n 0, 1) := by decide +kernel
theorem dX11_mirror_342 : decode cX11_mirror 342 = .ok (.getfield 53, 3) := by decide +kernel
theorem dX11_mirror_345 : decode cX11_mirror 345 = .ok (.iload_n 1, 1) := by decide +kernel
theorem dX11_mirror_346 : decode cX11_mirror 346 = .ok (.iaload, 1) := by decide +kernel
theorem dX11_mirror_347 : decode cX11_mirror 347 = .ok (.ineg, 1) := by decide +kernel
theorem dX11_mirror_348 : decode cX11_mirror 348 = .ok (.iastore, 1) := by decide +kernel
theorem dX11_mirror_349 : decode cX11_mirror 349 = .ok (.iconst 0, 1) := by decide +kernel
theorem dX11_mirror_350 : decode cX11_mirror 350 = .ok (.istore_n 3, 1) := by decide +kernel
theorem dX11_mirror_351 : decode cX11_mirror 351 = .ok (.iload_n 3, 1) := by decide +kernel
theorem dX11_mirror_352 : decode cX11_mirror 352 = .ok (.aload_n 0, 1) := by decide +kernel
theorem dX11_mirror_353 : decode cX11_mirror 353 = .ok (.getfield 74, 3) := by decide +kernel
theorem dX11_mirror_356 : decode cX11_mirror 356 = .ok (.iload_n 1, 1) := by decide +kernel
theorem dX11_mirror_357 : decode cX11_mirror 357 = .ok (.iaload, 1) := by decide +kernel
theorem dX11_mirror_358 : decode cX11_mirror 358 = .ok (.if_icmp .ge 34, 3) := by decide +kernel
theorem dX11_mirror_361 : decode cX11_mirror 361 = .ok (.aload_n 0, 1) := by decide +kernel
theorem dX11_mirror_362 : decode cX11_mirror 362 = .ok (.getfield 77, 3) := by decide +kernel
theorem dX11_mirror_365 : decode cX11_mirror 365 = .ok (.iconst 4, 1) := by decide +kernel
theorem dX11_mirror_366 : decode cX11_mirror 366 = .ok (.iload_n 1, 1) := by decide +kernel
theorem dX11_mirror_367 : decode cX11_mirror 367 = .ok (.imul, 1) := by decide +kernel
theorem dX11_mirror_368 : decode cX11_mirror 368 = .ok (.iload_n 3, 1) := by decide +kernel
theorem dX11_mirror_369 : decode cX11_mirror 369 = .ok (.iadd, 1) := by decide +kernel
theorem dX11_mirror_370 : decode cX11_mirror 370 = .ok (.aload_n 0, 1) := by decide +kernel
theorem dX11_mirror_371 : decode cX11_mirror 371 = .ok (.iload_n 1, 1) := by decide +kernel
theorem dX11_mirror_372 : decode cX11_mirror 372 = .ok (.aload_n 0, 1) := by decide +kernel
theorem dX11_mirror_373 : decode cX11_mirror 373 = .ok (.getfield 77, 3) := by decide +kernel
theorem dX11_mirror_376 : decode cX11_mirror 376 = .ok (.iconst 4, 1) := by decide +kernel
theorem dX11_mirror_377 : decode cX11_mirror 377 = .ok (.iload_n 1, 1) := by decide +kernel
theorem dX11_mirror_378 : decode cX11_mirror 378 = .ok (.imul, 1) := by decide +kernel
theorem dX11_mirror_379 : decode cX11_mirror 379 = .ok (.iload_n 3, 1) := by decide +kernel
theorem dX11_mirror_380 : decode cX11_mirror 380 = .ok (.iadd, 1) := by decide +kernel
theorem dX11_mirror_381 : decode cX11_mirror 381 = .ok (.iaload, 1) := by decide +kernel
theorem dX11_mirror_382 : decode cX11_mirror 382 = .ok (.invokevirtual 302, 3) := by decide +kernel
theorem dX11_mirror_385 : decode cX11_mirror 385 = .ok (.iastore, 1) := by decide +kernel
theorem dX11_mirror_386 : decode cX11_mirror 386 = .ok (.iinc 3 1, 3) := by decide +kernel
theorem dX11_mirror_389 : decode cX11_mirror 389 = .ok (.goto (-38), 3) := by decide +kernel
theorem dX11_mirror_392 : decode cX11_mirror 392 = .ok (.iconst 0, 1) := by decide +kernel
theorem dX11_mirror_393 : decode cX11_mirror 393 = .ok (.istore_n 3, 1) := by decide +kernel
theorem dX11_mirror_394 : decode cX11_mirror 394 = .ok (.iload_n 3, 1) := by decide +kernel
theorem dX11_mirror_395 : decode cX11_mirror 395 = .ok (.bipush 8, 2) := by decide +kernel
theorem dX11_mirror_397 : decode cX11_mirror 397 = .ok (.if_icmp .ge 81, 3) := by decide +kernel
theorem dX11_mirror_400 : decode cX11_mirror 400 = .ok (.aload_n 0, 1) := by decide +kernel
theorem dX11_mirror_401 : decode cX11_mirror 401 = .ok (.getfield 135, 3) := by decide +kernel
theorem dX11_mirror_404 : decode cX11_mirror 404 = .ok (.iload_n 3, 1) := by decide +kernel
theorem dX11_mirror_405 : decode cX11_mirror 405 = .ok (.aload_n 0, 1) := by decide +kernel
theorem dX11_mirror_406 : decode cX11_mirror 406 = .ok (.getfield 132, 3) := by decide +kernel
theorem dX11_mirror_409 : decode cX11_mirror 409 = .ok (.iload_n 3, 1) := by decide +kernel
theorem dX11_mirror_410 : decode cX11_mirror 410 = .ok (.iaload, 1) := by decide +kernel
theorem dX11_mirror_411 : decode cX11_mirror 411 = .ok (.iload_n 1, 1) := by decide +kernel
theorem dX11_mirror_412 : decode cX11_mirror 412 = .ok (.if_icmp .ne 17, 3) := by decide +kernel
theorem dX11_mirror_415 : decode cX11_mirror 415 = .ok (.aload_n 0, 1) := by decide +kernel
theorem dX11_mirror_416 : decode cX11_mirror 416 = .ok (.iload_n 1, 1) := by decide +kernel
theorem dX11_mirror_417 : decode cX11_mirror 417 = .ok (.aload_n 0, 1) := by decide +kernel
theorem dX11_mirror_418 : decode cX11_mirror 418 = .ok (.getfield 135, 3) := by decide +kernel
theorem dX11_mirror_421 : decode cX11_mirror 421 = .ok (.iload_n 3, 1) := by decide +kernel
theorem dX11_mirror_422 : decode cX11_mirror 422 = .ok (.iaload, 1) := by decide +kernel
theorem dX11_mirror_423 : decode cX11_mirror 423 = .ok (.invokevirtual 302, 3) := by decide +kernel
theorem dX11_mirror_426 : decode cX11_mirror 426 = .ok (.goto 9, 3) := by decide +kernel
theorem dX11_mirror_429 : decode cX11_mirror 429 = .ok (.aload_n 0, 1) := by decide +kernel
theorem dX11_mirror_430 : decode cX11_mirror 430 = .ok (.getfield 135, 3) := by decide +kernel
theorem dX11_mirror_433 : decode cX11_mirror 433 = .ok (.iload_n 3, 1) := by decide +kernel
theorem dX11_mirror_434 : decode cX11_mirror 434 = .ok (.iaload, 1) := by decide +kernel
theorem dX11_mirror_435 : decode cX11_mirror 435 = .ok (.iastore, 1) := by decide +kernel
theorem dX11_mirror_436 : decode cX11_mirror 436 = .ok (.aload_n 0, 1) := by decide +kernel
theorem dX11_mirror_437 : decode cX11_mirror 437 = .ok (.getfield 144, 3) := by decide +kernel
theorem dX11_mirror_440 : decode cX11_mirror 440 = .ok (.iload_n 3, 1) := by decide +kernel
theorem dX11_mirror_441 : decode cX11_mirror 441 = .ok (.aload_n 0, 1) := by decide +kernel
theorem dX11_mirror_442 : decode cX11_mirror 442 = .ok (.getfield 141, 3) := by decide +kernel
theorem dX11_mirror_445 : decode cX11_mirror 445 = .ok (.iload_n 3, 1) := by decide +kernel
theorem dX11_mirror_446 : decode cX11_mirror 446 = .ok (.iaload, 1) := by decide +kernel
theorem dX11_mirror_447 : decode cX11_mirror 447 = .ok (.iload_n 1, 1) := by decide +kernel
theorem dX11_mirror_448 : decode cX11_mirror 448 = .ok (.if_icmp .ne 17, 3) := by decide +kernel
theorem dX11_mirror_451 : decode cX11_mirror 451 = .ok (.aload_n 0, 1) := by decide +kernel
theorem dX11_mirror_452 : decode cX11_mirror 452 = .ok (.iload_n 1, 1) := by decide +kernel
theorem dX11_mirror_453 : decode cX11_mirror 453 = .ok (.aload_n 0, 1) := by decide +kernel
theorem dX11_mirror_454 : decode cX11_mirror 454 = .ok (.getfield 144, 3) := by decide +kernel
theorem dX11_mirror_457 : decode cX11_mirror 457 = .ok (.iload_n 3, 1) := by decide +kernel
theorem dX11_mirror_458 : decode cX11_mirror 458 = .ok (.iaload, 1) := by decide +kernel
theorem dX11_mirror_459 : decode cX11_mirror 459 = .ok (.invokevirtual 302, 3) := by decide +kernel
theorem dX11_mirror_462 : decode cX11_mirror 462 = .ok (.goto 9, 3) := by decide +kernel
theorem dX11_mirror_465 : decode cX11_mirror 465 = .ok (.aload_n 0, 1) := by decide +kernel
theorem dX11_mirror_466 : decode cX11_mirror 466 = .ok (.getfield 144, 3) := by decide +kernel
theorem dX11_mirror_469 : decode cX11_mirror 469 = .ok (.iload_n 3, 1) := by decide +kernel
theorem dX11_mirror_470 : decode cX11_mirror 470 = .ok (.iaload, 1) := by decide +kernel
theorem dX11_mirror_471 : decode cX11_mirror 471 = .ok (.iastore, 1) := by decide +kernel
theorem dX11_mirror_472 : decode cX11_mirror 472 = .ok (.iinc 3 1, 3) := by decide +kernel
theorem dX11_mirror_475 : decode cX11_mirror 475 = .ok (.goto (-81), 3) := by decide +kernel
theorem dX11_mirror_478 : decode cX11_mirror 478 = .ok (.iconst 1, 1) := by decide +kernel
theorem dX11_mirror_479 : decode cX11_mirror 479 = .ok (.ireturn, 1) := by decide +kernel
set_option maxRecDepth 20000 in
theorem ggX11_isEight_X11_in : GoodIn wsX11_isEight wsX11_in := goodIn_r _ [4] (by decide +kernel) (by decide +kernel)
set_option maxRecDepth 20000 in
theorem gX11_isEight_X11_in : GoodIn wsX11_isEight (va_wsS RX11 182 yX11_in wsX11_in) := goodIn_app (goodIn_of _ (by decide +kernel)) ggX11_isEight_X11_in
theorem dX11_isEight_0 : decode cX11_isEight 0 = .ok (.iload_n 0, 1) := by decide +kernel
theorem dX11_isEight_1 : decode cX11_isEight 1 = .ok (.iconst 0, 1) := by decide +kernel
theorem dX11_isEight_2 : decode cX11_isEight 2 = .ok (.bipush 7, 2) := by decide +kernel
theorem dX11_isEight_4 : decode cX11_isEight 4 = .ok (.invokestatic 182, 3) := by decide +kernel
theorem dX11_isEight_7 : decode cX11_isEight 7 = .ok (.ireturn, 1) := by decide +kernel
set_option maxRecDepth 20000 in
theorem ggX11_boat_X11_isEight : GoodIn wsX11_boat wsX11_isEight := goodIn_r _ [7, 8, 9, 6, 10] (by decide +kernel) (by decide +kernel)
set_option maxRecDepth 20000 in
theorem gX11_boat_X11_isEight : GoodIn wsX11_boat (va_wsS RX11 305 yX11_isEight wsX11_isEight) := goodIn_app (goodIn_of _ (by decide +kernel)) ggX11_boat_X11_isEight
set_option maxRecDepth 20000 in
theorem ggX11_boat_X11_in : GoodIn wsX11_boat wsX11_in := goodIn_r _ [10] (by decide +kernel) (by decide +kernel)
set_option maxRecDepth 20000 in
theorem gX11_boat_X11_in : GoodIn wsX11_boat (va_wsS RX11 182 yX11_in wsX11_in) := goodIn_app (goodIn_of _ (by decide +kernel)) ggX11_boat_X11_in
set_option maxRecDepth 20000 in
theorem ggX11_boat_X11_askedCell : GoodIn wsX11_boat wsX11_askedCell := goodIn_r _ [14, 15, 16, 17, 6, 18, 19, 20, 21, 22, 8, 9, 10, 23, 24, 25, 26, 27, 28, 29, 30, 31, 32, 33, 34, 35, 36, 37, 38, 39, 40, 41, 42, 43, 44, 45, 46, 47, 48, 49, 50, 51, 52, 53, 54, 55, 56, 57, 58, 59, 60, 61, 62, 63, 64, 65, 66, 67, 68, 69, 70, 71, 72, 73, 74, 75, 76, 77, 78, 79, 80, 81, 82, 83, 84, 85, 86, 87, 88, 89, 90, 91, 92, 93, 94, 95, 96, 97, 98, 99, 100, 101, 102, 103, 104] (by decide +kernel) (by decide +kernel)
set_option maxRecDepth 20000 in
theorem gX11_boat_X11_askedCell : GoodIn wsX11_boat (wsV RX11 240 RX11 yX11_askedCell wsX11_askedCell) := goodIn_app (goodIn_of _ (by decide +kernel)) ggX11_boat_X11_askedCell
theorem dX11_boat_0 : decode cX11_boat 0 = .ok (.iload_n 1, 1) := by decide +kernel
theorem dX11_boat_1 : decode cX11_boat 1 = .ok (.invokestatic 305, 3) := by decide +kernel
theorem dX11_boat_4 : decode cX11_boat 4 = .ok (.ifCond .eq 15, 3) := by decide +kernel
theorem dX11_boat_7 : decode cX11_boat 7 = .ok (.iload 4, 2) := by decide +kernel
theorem dX11_boat_9 : decode cX11_boat 9 = .ok (.iconst 1, 1) := by decide +kernel
theorem dX11_boat_10 : decode cX11_boat 10 = .ok (.sipush 1000, 3) := by decide +kernel
theorem dX11_boat_13 : decode cX11_boat 13 = .ok (.invokestatic 182, 3) := by decide +kernel
theorem dX11_boat_16 : decode cX11_boat 16 = .ok (.ifCond .ne 5, 3) := by decide +kernel
theorem dX11_boat_19 : decode cX11_boat 19 = .ok (.iconst (-1), 1) := by decide +kernel
theorem dX11_boat_20 : decode cX11_boat 20 = .ok (.ireturn, 1) := by decide +kernel
theorem dX11_boat_21 : decode cX11_boat 21 = .ok (.aload_n 0, 1) := by decide +kernel
theorem dX11_boat_22 : decode cX11_boat 22 = .ok (.iload_n 2, 1) := by decide +kernel
theorem dX11_boat_23 : decode cX11_boat 23 = .ok (.iload_n 3, 1) := by decide +kernel
theorem dX11_boat_24 : decode cX11_boat 24 = .ok (.invokevirtual 240, 3) := by decide +kernel
theorem dX11_boat_27 : decode cX11_boat 27 = .ok (.istore 5, 2) := by decide +kernel
theorem dX11_boat_29 : decode cX11_boat 29 = .ok (.iload 5, 2) := by decide +kernel
theorem dX11_boat_31 : decode cX11_boat 31 = .ok (.ifCond .ge 6, 3) := by decide +kernel
theorem dX11_boat_34 : decode cX11_boat 34 = .ok (.iload 5, 2) := by decide +kernel
theorem dX11_boat_36 : decode cX11_boat 36 = .ok (.ireturn, 1) := by decide +kernel
theorem dX11_boat_37 : decode cX11_boat 37 = .ok (.aload_n 0, 1) := by decide +kernel
theorem dX11_boat_38 : decode cX11_boat 38 = .ok (.getfield 132, 3) := by decide +kernel
theorem dX11_boat_41 : decode cX11_boat 41 = .ok (.iload_n 1, 1) := by decide +kernel
theorem dX11_boat_42 : decode cX11_boat 42 = .ok (.iaload, 1) := by decide +kernel
theorem dX11_boat_43 : decode cX11_boat 43 = .ok (.ifCond .ge 7, 3) := by decide +kernel
theorem dX11_boat_46 : decode cX11_boat 46 = .ok (.iconst 0, 1) := by decide +kernel
theorem dX11_boat_47 : decode cX11_boat 47 = .ok (.goto 4, 3) := by decide +kernel
theorem dX11_boat_50 : decode cX11_boat 50 = .ok (.iconst 1, 1) := by decide +kernel
theorem dX11_boat_51 : decode cX11_boat 51 = .ok (.istore 6, 2) := by decide +kernel
theorem dX11_boat_53 : decode cX11_boat 53 = .ok (.aload_n 0, 1) := by decide +kernel
theorem dX11_boat_54 : decode cX11_boat 54 = .ok (.getfield 132, 3) := by decide +kernel
theorem dX11_boat_57 : decode cX11_boat 57 = .ok (.iload_n 1, 1) := by decide +kernel
theorem dX11_boat_58 : decode cX11_boat 58 = .ok (.iload_n 2, 1) := by decide +kernel
theorem dX11_boat_59 : decode cX11_boat 59 = .ok (.iastore, 1) := by decide +kernel
theorem dX11_boat_60 : decode cX11_boat 60 = .ok (.aload_n 0, 1) := by decide +kernel
theorem dX11_boat_61 : decode cX11_boat 61 = .ok (.getfield 135, 3) := by decide +kernel
theorem dX11_boat_64 : decode cX11_boat 64 = .ok (.iload_n 1, 1) := by decide +kernel
theorem dX11_boat_65 : decode cX11_boat 65 = .ok (.iload_n 3, 1) := by decide +kernel
theorem dX11_boat_66 : decode cX11_boat 66 = .ok (.iastore, 1) := by decide +kernel
theorem dX11_boat_67 : decode cX11_boat 67 = .ok (.aload_n 0, 1) := by decide +kernel
theorem dX11_boat_68 : decode cX11_boat 68 = .ok (.getfield 138, 3) := by decide +kernel
theorem dX11_boat_71 : decode cX11_boat 71 = .ok (.iload_n 1, 1) := by decide +kernel
theorem dX11_boat_72 : decode cX11_boat 72 = .ok (.iload 4, 2) := by decide +kernel
theorem dX11_boat_74 : decode cX11_boat 74 = .ok (.iastore, 1) := by decide +kernel
theorem dX11_boat_75 : decode cX11_boat 75 = .ok (.iload 6, 2) := by decide +kernel
theorem dX11_boat_77 : decode cX11_boat 77 = .ok (.ireturn, 1) := by decide +kernel
set_option maxRecDepth 20000 in
theorem ggX11_where_X11_isEight : GoodIn wsX11_where wsX11_isEight := goodIn_r _ [6, 7, 8, 5, 9] (by decide +kernel) (by decide +kernel)
set_option maxRecDepth 20000 in
theorem gX11_where_X11_isEight : GoodIn wsX11_where (va_wsS RX11 305 yX11_isEight wsX11_isEight) := goodIn_app (goodIn_of _ (by decide +kernel)) ggX11_where_X11_isEight
theorem dX11_where_0 : decode cX11_where 0 = .ok (.iload_n 1, 1) := by decide +kernel
theorem dX11_where_1 : decode cX11_where 1 = .ok (.invokestatic 305, 3) := by decide +kernel
theorem dX11_where_4 : decode cX11_where 4 = .ok (.ifCond .ne 7, 3) := by decide +kernel
theorem dX11_where_7 : decode cX11_where 7 = .ok (.iconst (-1), 1) := by decide +kernel
theorem dX11_where_8 : decode cX11_where 8 = .ok (.goto 23, 3) := by decide +kernel
theorem dX11_where_11 : decode cX11_where 11 = .ok (.aload_n 0, 1) := by decide +kernel
theorem dX11_where_12 : decode cX11_where 12 = .ok (.getfield 132, 3) := by decide +kernel
theorem dX11_where_15 : decode cX11_where 15 = .ok (.iload_n 1, 1) := by decide +kernel
theorem dX11_where_16 : decode cX11_where 16 = .ok (.iaload, 1) := by decide +kernel
theorem dX11_where_17 : decode cX11_where 17 = .ok (.ifCond .ge 8, 3) := by decide +kernel
theorem dX11_where_20 : decode cX11_where 20 = .ok (.bipush (-9), 2) := by decide +kernel
theorem dX11_where_22 : decode cX11_where 22 = .ok (.goto 9, 3) := by decide +kernel
theorem dX11_where_25 : decode cX11_where 25 = .ok (.aload_n 0, 1) := by decide +kernel
theorem dX11_where_26 : decode cX11_where 26 = .ok (.getfield 135, 3) := by decide +kernel
theorem dX11_where_29 : decode cX11_where 29 = .ok (.iload_n 1, 1) := by decide +kernel
theorem dX11_where_30 : decode cX11_where 30 = .ok (.iaload, 1) := by decide +kernel
theorem dX11_where_31 : decode cX11_where 31 = .ok (.ireturn, 1) := by decide +kernel
set_option maxRecDepth 20000 in
theorem ggX11_gauge_X11_isEight : GoodIn wsX11_gauge wsX11_isEight := goodIn_r _ [7, 8, 9, 6, 10] (by decide +kernel) (by decide +kernel)
set_option maxRecDepth 20000 in
theorem gX11_gauge_X11_isEight : GoodIn wsX11_gauge (va_wsS RX11 305 yX11_isEight wsX11_isEight) := goodIn_app (goodIn_of _ (by decide +kernel)) ggX11_gauge_X11_isEight
set_option maxRecDepth 20000 in
theorem ggX11_gauge_X11_askedCell : GoodIn wsX11_gauge wsX11_askedCell := goodIn_r _ [14, 15, 16, 17, 6, 18, 19, 20, 21, 22, 8, 9, 10, 23, 24, 25, 26, 27, 28, 29, 30, 31, 32, 33, 34, 35, 36, 37, 38, 39, 40, 41, 42, 43, 44, 45, 46, 47, 48, 49, 50, 51, 52, 53, 54, 55, 56, 57, 58, 59, 60, 61, 62, 63, 64, 65, 66, 67, 68, 69, 70, 71, 72, 73, 74, 75, 76, 77, 78, 79, 80, 81, 82, 83, 84, 85, 86, 87, 88, 89, 90, 91, 92, 93, 94, 95, 96, 97, 98, 99, 100, 101, 102, 103, 104] (by decide +kernel) (by decide +kernel)
set_option maxRecDepth 20000 in
theorem gX11_gauge_X11_askedCell : GoodIn wsX11_gauge (wsV RX11 240 RX11 yX11_askedCell wsX11_askedCell) := goodIn_app (goodIn_of _ (by decide +kernel)) ggX11_gauge_X11_askedCell
theorem dX11_gauge_0 : decode cX11_gauge 0 = .ok (.iload_n 1, 1) := by decide +kernel
theorem dX11_gauge_1 : decode cX11_gauge 1 = .ok (.invokestatic 305, 3) := by decide +kernel
theorem dX11_gauge_4 : decode cX11_gauge 4 = .ok (.ifCond .ne 5, 3) := by decide +kernel
theorem dX11_gauge_7 : decode cX11_gauge 7 = .ok (.iconst (-1), 1) := by decide +kernel
theorem dX11_gauge_8 : decode cX11_gauge 8 = .ok (.ireturn, 1) := by decide +kernel
theorem dX11_gauge_9 : decode cX11_gauge 9 = .ok (.aload_n 0, 1) := by decide +kernel
theorem dX11_gauge_10 : decode cX11_gauge 10 = .ok (.iload_n 2, 1) := by decide +kernel
theorem dX11_gauge_11 : decode cX11_gauge 11 = .ok (.iload_n 3, 1) := by decide +kernel
theorem dX11_gauge_12 : decode cX11_gauge 12 = .ok (.invokevirtual 240, 3) := by decide +kernel
theorem dX11_gauge_15 : decode cX11_gauge 15 = .ok (.istore 4, 2) := by decide +kernel
theorem dX11_gauge_17 : decode cX11_gauge 17 = .ok (.iload 4, 2) := by decide +kernel
theorem dX11_gauge_19 : decode cX11_gauge 19 = .ok (.ifCond .ge 6, 3) := by decide +kernel
theorem dX11_gauge_22 : decode cX11_gauge 22 = .ok (.iload 4, 2) := by decide +kernel
theorem dX11_gauge_24 : decode cX11_gauge 24 = .ok (.ireturn, 1) := by decide +kernel
theorem dX11_gauge_25 : decode cX11_gauge 25 = .ok (.aload_n 0, 1) := by decide +kernel
theorem dX11_gauge_26 : decode cX11_gauge 26 = .ok (.getfield 141, 3) := by decide +kernel
theorem dX11_gauge_29 : decode cX11_gauge 29 = .ok (.iload_n 1, 1) := by decide +kernel
theorem dX11_gauge_30 : decode cX11_gauge 30 = .ok (.iaload, 1) := by decide +kernel
theorem dX11_gauge_31 : decode cX11_gauge 31 = .ok (.ifCond .ge 7, 3) := by decide +kernel
theorem dX11_gauge_34 : decode cX11_gauge 34 = .ok (.iconst 0, 1) := by decide +kernel
theorem dX11_gauge_35 : decode cX11_gauge 35 = .ok (.goto 4, 3) := by decide +kernel
theorem dX11_gauge_38 : decode cX11_gauge 38 = .ok (.iconst 1, 1) := by decide +kernel
theorem dX11_gauge_39 : decode cX11_gauge 39 = .ok (.istore 5, 2) := by decide +kernel
theorem dX11_gauge_41 : decode cX11_gauge 41 = .ok (.aload_n 0, 1) := by decide +kernel
theorem dX11_gauge_42 : decode cX11_gauge 42 = .ok (.getfield 141, 3) := by decide +kernel
theorem dX11_gauge_45 : decode cX11_gauge 45 = .ok (.iload_n 1, 1) := by decide +kernel
theorem dX11_gauge_46 : decode cX11_gauge 46 = .ok (.iload_n 2, 1) := by decide +kernel
theorem dX11_gauge_47 : decode cX11_gauge 47 = .ok (.iastore, 1) := by decide +kernel
theorem dX11_gauge_48 : decode cX11_gauge 48 = .ok (.aload_n 0, 1) := by decide +kernel
theorem dX11_gauge_49 : decode cX11_gauge 49 = .ok (.getfield 144, 3) := by decide +kernel
theorem dX11_gauge_52 : decode cX11_gauge 52 = .ok (.iload_n 1, 1) := by decide +kernel
theorem dX11_gauge_53 : decode cX11_gauge 53 = .ok (.iload_n 3, 1) := by decide +kernel
theorem dX11_gauge_54 : decode cX11_gauge 54 = .ok (.iastore, 1) := by decide +kernel
theorem dX11_gauge_55 : decode cX11_gauge 55 = .ok (.aload_n 0, 1) := by decide +kernel
theorem dX11_gauge_56 : decode cX11_gauge 56 = .ok (.getfield 147, 3) := by decide +kernel
theorem dX11_gauge_59 : decode cX11_gauge 59 = .ok (.iload_n 1, 1) := by decide +kernel
theorem dX11_gauge_60 : decode cX11_gauge 60 = .ok (.iconst 0, 1) := by decide +kernel
theorem dX11_gauge_61 : decode cX11_gauge 61 = .ok (.iastore, 1) := by decide +kernel
theorem dX11_gauge_62 : decode cX11_gauge 62 = .ok (.iload 5, 2) := by decide +kernel
theorem dX11_gauge_64 : decode cX11_gauge 64 = .ok (.ireturn, 1) := by decide +kernel
theorem dX11_write_0 : decode cX11_write 0 = .ok (.aload_n 0, 1) := by decide +kernel
theorem dX11_write_1 : decode cX11_write 1 = .ok (.getfield 147, 3) := by decide +kernel
theorem dX11_write_4 : decode cX11_write 4 = .ok (.iload_n 1, 1) := by decide +kernel
theorem dX11_write_5 : decode cX11_write 5 = .ok (.iaload, 1) := by decide +kernel
theorem dX11_write_6 : decode cX11_write 6 = .ok (.bipush 48, 2) := by decide +kernel
theorem dX11_write_8 : decode cX11_write 8 = .ok (.if_icmp .ne 75, 3) := by decide +kernel
theorem dX11_write_11 : decode cX11_write 11 = .ok (.iconst 0, 1) := by decide +kernel
theorem dX11_write_12 : decode cX11_write 12 = .ok (.istore_n 3, 1) := by decide +kernel
theorem dX11_write_13 : decode cX11_write 13 = .ok (.iload_n 3, 1) := by decide +kernel
theorem dX11_write_14 : decode cX11_write 14 = .ok (.bipush 47, 2) := by decide +kernel
theorem dX11_write_16 : decode cX11_write 16 = .ok (.if_icmp .ge 57, 3) := by decide +kernel
theorem dX11_write_19 : decode cX11_write 19 = .ok (.aload_n 0, 1) := by decide +kernel
theorem dX11_write_20 : decode cX11_write 20 = .ok (.getfield 150, 3) := by decide +kernel
theorem dX11_write_23 : decode cX11_write 23 = .ok (.bipush 48, 2) := by decide +kernel
theorem dX11_write_25 : decode cX11_write 25 = .ok (.iload_n 1, 1) := by decide +kernel
theorem dX11_write_26 : decode cX11_write 26 = .ok (.imul, 1) := by decide +kernel
theorem dX11_write_27 : decode cX11_write 27 = .ok (.iload_n 3, 1) := by decide +kernel
theorem dX11_write_28 : decode cX11_write 28 = .ok (.iadd, 1) := by decide +kernel
theorem dX11_write_29 : decode cX11_write 29 = .ok (.aload_n 0, 1) := by decide +kernel
theorem dX11_write_30 : decode cX11_write 30 = .ok (.getfield 150, 3) := by decide +kernel
theorem dX11_write_33 : decode cX11_write 33 = .ok (.bipush 48, 2) := by decide +kernel
theorem dX11_write_35 : decode cX11_write 35 = .ok (.iload_n 1, 1) := by decide +kernel
theorem dX11_write_36 : decode cX11_write 36 = .ok (.imul, 1) := by decide +kernel
theorem dX11_write_37 : decode cX11_write 37 = .ok (.iload_n 3, 1) := by decide +kernel
theorem dX11_write_38 : decode cX11_write 38 = .ok (.iadd, 1) := by decide +kernel
theorem dX11_write_39 : decode cX11_write 39 = .ok (.iconst 1, 1) := by decide +kernel
theorem dX11_write_40 : decode cX11_write 40 = .ok (.iadd, 1) := by decide +kernel
theorem dX11_write_41 : decode cX11_write 41 = .ok (.iaload, 1) := by decide +kernel
theorem dX11_write_42 : decode cX11_write 42 = .ok (.iastore, 1) := by decide +kernel
theorem dX11_write_43 : decode cX11_write 43 = .ok (.aload_n 0, 1) := by decide +kernel
theorem dX11_write_44 : decode cX11_write 44 = .ok (.getfield 153, 3) := by decide +kernel
theorem dX11_write_47 : decode cX11_write 47 = .ok (.bipush 48, 2) := by decide +kernel
theorem dX11_write_49 : decode cX11_write 49 = .ok (.iload_n 1, 1) := by decide +kernel
theorem dX11_write_50 : decode cX11_write 50 = .ok (.imul, 1) := by decide +kernel
theorem dX11_write_51 : decode cX11_write 51 = .ok (.iload_n 3, 1) := by decide +kernel
theorem dX11_write_52 : decode cX11_write 52 = .ok (.iadd, 1) := by decide +kernel
theorem dX11_write_53 : decode cX11_write 53 = .ok (.aload_n 0, 1) := by decide +kernel
theorem dX11_write_54 : decode cX11_write 54 = .ok (.getfield 153, 3) := by decide +kernel
theorem dX11_write_57 : decode cX11_write 57 = .ok (.bipush 48, 2) := by decide +kernel
theorem dX11_write_59 : decode cX11_write 59 = .ok (.iload_n 1, 1) := by decide +kernel
theorem dX11_write_60 : decode cX11_write 60 = .ok (.imul, 1) := by decide +kernel
theorem dX11_write_61 : decode cX11_write 61 = .ok (.iload_n 3, 1) := by decide +kernel
theorem dX11_write_62 : decode cX11_write 62 = .ok (.iadd, 1) := by decide +kernel
theorem dX11_write_63 : decode cX11_write 63 = .ok (.iconst 1, 1) := by decide +kernel
theorem dX11_write_64 : decode cX11_write 64 = .ok (.iadd, 1) := by decide +kernel
theorem dX11_write_65 : decode cX11_write 65 = .ok (.baload, 1) := by decide +kernel
theorem dX11_write_66 : decode cX11_write 66 = .ok (.bastore, 1) := by decide +kernel
theorem dX11_write_67 : decode cX11_write 67 = .ok (.iinc 3 1, 3) := by decide +kernel
theorem dX11_write_70 : decode cX11_write 70 = .ok (.goto (-57), 3) := by decide +kernel
theorem dX11_write_73 : decode cX11_write 73 = .ok (.aload_n 0, 1) := by decide +kernel
theorem dX11_write_74 : decode cX11_write 74 = .ok (.getfield 147, 3) := by decide +kernel
theorem dX11_write_77 : decode cX11_write 77 = .ok (.iload_n 1, 1) := by decide +kernel
theorem dX11_write_78 : decode cX11_write 78 = .ok (.dup2, 1) := by decide +kernel
theorem dX11_write_79 : decode cX11_write 79 = .ok (.iaload, 1) := by decide +kernel
theorem dX11_write_80 : decode cX11_write 80 = .ok (.iconst 1, 1) := by decide +kernel
theorem dX11_write_81 : decode cX11_write 81 = .ok (.isub, 1) := by decide +kernel
theorem dX11_write_82 : decode cX11_write 82 = .ok (.iastore, 1) := by decide +kernel
theorem dX11_write_83 : decode cX11_write 83 = .ok (.aload_n 0, 1) := by decide +kernel
theorem dX11_write_84 : decode cX11_write 84 = .ok (.getfield 150, 3) := by decide +kernel
theorem dX11_write_87 : decode cX11_write 87 = .ok (.bipush 48, 2) := by decide +kernel
theorem dX11_write_89 : decode cX11_write 89 = .ok (.iload_n 1, 1) := by decide +kernel
theorem dX11_write_90 : decode cX11_write 90 = .ok (.imul, 1) := by decide +kernel
theorem dX11_write_91 : decode cX11_write 91 = .ok (.aload_n 0, 1) := by decide +kernel
theorem dX11_write_92 : decode cX11_write 92 = .ok (.getfield 147, 3) := by decide +kernel
theorem dX11_write_95 : decode cX11_write 95 = .ok (.iload_n 1, 1) := by decide +kernel
theorem dX11_write_96 : decode cX11_write 96 = .ok (.iaload, 1) := by decide +kernel
theorem dX11_write_97 : decode cX11_write 97 = .ok (.iadd, 1) := by decide +kernel
theorem dX11_write_98 : decode cX11_write 98 = .ok (.iload_n 2, 1) := by decide +kernel
theorem dX11_write_99 : decode cX11_write 99 = .ok (.iastore, 1) := by decide +kernel
theorem dX11_write_100 : decode cX11_write 100 = .ok (.aload_n 0, 1) := by decide +kernel
theorem dX11_write_101 : decode cX11_write 101 = .ok (.getfield 153, 3) := by decide +kernel
theorem dX11_write_104 : decode cX11_write 104 = .ok (.bipush 48, 2) := by decide +kernel
theorem dX11_write_106 : decode cX11_write 106 = .ok (.iload_n 1, 1) := by decide +kernel
theorem dX11_write_107 : decode cX11_write 107 = .ok (.imul, 1) := by decide +kernel
theorem dX11_write_108 : decode cX11_write 108 = .ok (.aload_n 0, 1) := by decide +kernel
theorem dX11_write_109 : decode cX11_write 109 = .ok (.getfield 147, 3) := by decide +kernel
theorem dX11_write_112 : decode cX11_write 112 = .ok (.iload_n 1, 1) := by decide +kernel
theorem dX11_write_113 : decode cX11_write 113 = .ok (.iaload, 1) := by decide +kernel
theorem dX11_write_114 : decode cX11_write 114 = .ok (.iadd, 1) := by decide +kernel
theorem dX11_write_115 : decode cX11_write 115 = .ok (.iconst 0, 1) := by decide +kernel
theorem dX11_write_116 : decode cX11_write 116 = .ok (.bastore, 1) := by decide +kernel
theorem dX11_write_117 : decode cX11_write 117 = .ok (.aload_n 0, 1) := by decide +kernel
theorem dX11_write_118 : decode cX11_write 118 = .ok (.getfield 147, 3) := by decide +kernel
theorem dX11_write_121 : decode cX11_write 121 = .ok (.iload_n 1, 1) := by decide +kernel
theorem dX11_write_122 : decode cX11_write 122 = .ok (.dup2, 1) := by decide +kernel
theorem dX11_write_123 : decode cX11_write 123 = .ok (.iaload, 1) := by decide +kernel
theorem dX11_write_124 : decode cX11_write 124 = .ok (.iconst 1, 1) := by decide +kernel
theorem dX11_write_125 : decode cX11_write 125 = .ok (.iadd, 1) := by decide +kernel
theorem dX11_write_126 : decode cX11_write 126 = .ok (.iastore, 1) := by decide +kernel
theorem dX11_write_127 : decode cX11_write 127 = .ok (.return_, 1) := by decide +kernel
set_option maxRecDepth 20000 in
theorem ggX11_has_X11_in : GoodIn wsX11_has wsX11_in := goodIn_r _ [7] (by decide +kernel) (by decide +kernel)
set_option maxRecDepth 20000 in
theorem gX11_has_X11_in : GoodIn wsX11_has (va_wsS RX11 182 yX11_in wsX11_in) := goodIn_app (goodIn_of _ (by decide +kernel)) ggX11_has_X11_in
theorem dX11_has_0 : decode cX11_has 0 = .ok (.aload_n 0, 1) := by decide +kernel
theorem dX11_has_1 : decode cX11_has 1 = .ok (.getfield 141, 3) := by decide +kernel
theorem dX11_has_4 : decode cX11_has 4 = .ok (.iload_n 1, 1) := by decide +kernel
theorem dX11_has_5 : decode cX11_has 5 = .ok (.iaload, 1) := by decide +kernel
theorem dX11_has_6 : decode cX11_has 6 = .ok (.ifCond .lt 46, 3) := by decide +kernel
theorem dX11_has_9 : decode cX11_has 9 = .ok (.iload_n 2, 1) := by decide +kernel
theorem dX11_has_10 : decode cX11_has 10 = .ok (.iconst 0, 1) := by decide +kernel
theorem dX11_has_11 : decode cX11_has 11 = .ok (.aload_n 0, 1) := by decide +kernel
theorem dX11_has_12 : decode cX11_has 12 = .ok (.getfield 147, 3) := by decide +kernel
theorem dX11_has_15 : decode cX11_has 15 = .ok (.iload_n 1, 1) := by decide +kernel
theorem dX11_has_16 : decode cX11_has 16 = .ok (.iaload, 1) := by decide +kernel
theorem dX11_has_17 : decode cX11_has 17 = .ok (.iconst 1, 1) := by decide +kernel
theorem dX11_has_18 : decode cX11_has 18 = .ok (.isub, 1) := by decide +kernel
theorem dX11_has_19 : decode cX11_has 19 = .ok (.invokestatic 182, 3) := by decide +kernel
theorem dX11_has_22 : decode cX11_has 22 = .ok (.ifCond .eq 30, 3) := by decide +kernel
theorem dX11_has_25 : decode cX11_has 25 = .ok (.aload_n 0, 1) := by decide +kernel
theorem dX11_has_26 : decode cX11_has 26 = .ok (.getfield 153, 3) := by decide +kernel
theorem dX11_has_29 : decode cX11_has 29 = .ok (.bipush 48, 2) := by decide +kernel
theorem dX11_has_31 : decode cX11_has 31 = .ok (.iload_n 1, 1) := by decide +kernel
theorem dX11_has_32 : decode cX11_has 32 = .ok (.imul, 1) := by decide +kernel
theorem dX11_has_33 : decode cX11_has 33 = .ok (.aload_n 0, 1) := by decide +kernel
theorem dX11_has_34 : decode cX11_has 34 = .ok (.getfield 147, 3) := by decide +kernel
theorem dX11_has_37 : decode cX11_has 37 = .ok (.iload_n 1, 1) := by decide +kernel
theorem dX11_has_38 : decode cX11_has 38 = .ok (.iaload, 1) := by decide +kernel
theorem dX11_has_39 : decode cX11_has 39 = .ok (.iadd, 1) := by decide +kernel
theorem dX11_has_40 : decode cX11_has 40 = .ok (.iconst 1, 1) := by decide +kernel
theorem dX11_has_41 : decode cX11_has 41 = .ok (.isub, 1) := by decide +kernel
theorem dX11_has_42 : decode cX11_has 42 = .ok (.iload_n 2, 1) := by decide +kernel
theorem dX11_has_43 : decode cX11_has 43 = .ok (.isub, 1) := by decide +kernel
theorem dX11_has_44 : decode cX11_has 44 = .ok (.baload, 1) := by decide +kernel
theorem dX11_has_45 : decode cX11_has 45 = .ok (.ifCond .ne 7, 3) := by decide +kernel
theorem dX11_has_48 : decode cX11_has 48 = .ok (.iconst 1, 1) := by decide +kernel
theorem dX11_has_49 : decode cX11_has 49 = .ok (.goto 4, 3) := by decide +kernel
theorem dX11_has_52 : decode cX11_has 52 = .ok (.iconst 0, 1) := by decide +kernel
theorem dX11_has_53 : decode cX11_has 53 = .ok (.ireturn, 1) := by decide +kernel
set_option maxRecDepth 20000 in
theorem ggX11_reading_X11_isEight : GoodIn wsX11_reading wsX11_isEight := goodIn_r _ [6, 7, 8, 5, 9] (by decide +kernel) (by decide +kernel)
set_option maxRecDepth 20000 in
theorem gX11_reading_X11_isEight : GoodIn wsX11_reading (va_wsS RX11 305 yX11_isEight wsX11_isEight) := goodIn_app (goodIn_of _ (by decide +kernel)) ggX11_reading_X11_isEight
set_option maxRecDepth 20000 in
theorem ggX11_reading_X11_has : GoodIn wsX11_reading wsX11_has := goodIn_r _ [13, 14, 2, 15, 7, 8, 5, 9, 21, 22, 23, 24, 25, 26, 27, 28, 29, 30, 31, 32, 33, 34, 35, 36, 37, 38, 39, 40, 41, 42, 43, 44, 45, 46, 47, 48, 49, 50, 51, 52, 53, 54, 55, 56, 57, 58, 59, 60, 61, 62, 63, 64, 65, 66, 67, 68, 69, 70, 71, 72, 73, 74, 75, 76, 77, 78, 79, 80, 81, 82, 83, 84, 85, 86] (by decide +kernel) (by decide +kernel)
set_option maxRecDepth 20000 in
theorem gX11_reading_X11_has : GoodIn wsX11_reading (wsV RX11 308 RX11 yX11_has wsX11_has) := goodIn_app (goodIn_of _ (by decide +kernel)) ggX11_reading_X11_has
set_option maxRecDepth 20000 in
theorem ggX11_reading_X11_ask : GoodIn wsX11_reading wsX11_ask := goodIn_r _ [19, 20, 21, 22, 23, 24, 25, 26, 27, 28, 29, 30, 31, 32, 33, 34, 35, 36, 37, 38, 39, 40, 41, 42, 43, 44, 45, 46, 47, 48, 49, 50, 51, 52, 53, 54, 55, 56, 57, 58, 59, 60, 61, 62, 63, 64, 65, 66, 67, 68, 69, 70, 71, 72, 73, 74, 75, 76, 77, 78, 79, 80, 81, 82, 83, 84, 85, 86] (by decide +kernel) (by decide +kernel)
set_option maxRecDepth 20000 in
theorem gX11_reading_X11_ask : GoodIn wsX11_reading (wsV RX11 202 RX11 yX11_ask wsX11_ask) := goodIn_app (goodIn_of _ (by decide +kernel)) ggX11_reading_X11_ask
theorem dX11_reading_0 : decode cX11_reading 0 = .ok (.iload_n 1, 1) := by decide +kernel
theorem dX11_reading_1 : decode cX11_reading 1 = .ok (.invokestatic 305, 3) := by decide +kernel
theorem dX11_reading_4 : decode cX11_reading 4 = .ok (.ifCond .ne 7, 3) := by decide +kernel
theorem dX11_reading_7 : decode cX11_reading 7 = .ok (.iconst (-1), 1) := by decide +kernel
theorem dX11_reading_8 : decode cX11_reading 8 = .ok (.goto 42, 3) := by decide +kernel
theorem dX11_reading_11 : decode cX11_reading 11 = .ok (.aload_n 0, 1) := by decide +kernel
theorem dX11_reading_12 : decode cX11_reading 12 = .ok (.iload_n 1, 1) := by decide +kernel
theorem dX11_reading_13 : decode cX11_reading 13 = .ok (.iload_n 2, 1) := by decide +kernel
theorem dX11_reading_14 : decode cX11_reading 14 = .ok (.invokevirtual 308, 3) := by decide +kernel
theorem dX11_reading_17 : decode cX11_reading 17 = .ok (.ifCond .eq 31, 3) := by decide +kernel
theorem dX11_reading_20 : decode cX11_reading 20 = .ok (.aload_n 0, 1) := by decide +kernel
theorem dX11_reading_21 : decode cX11_reading 21 = .ok (.aload_n 0, 1) := by decide +kernel
theorem dX11_reading_22 : decode cX11_reading 22 = .ok (.getfield 150, 3) := by decide +kernel
theorem dX11_reading_25 : decode cX11_reading 25 = .ok (.bipush 48, 2) := by decide +kernel
theorem dX11_reading_27 : decode cX11_reading 27 = .ok (.iload_n 1, 1) := by decide +kernel
theorem dX11_reading_28 : decode cX11_reading 28 = .ok (.imul, 1) := by decide +kernel
theorem dX11_reading_29 : decode cX11_reading 29 = .ok (.aload_n 0, 1) := by decide +kernel
theorem dX11_reading_30 : decode cX11_reading 30 = .ok (.getfield 147, 3) := by decide +kernel
theorem dX11_reading_33 : decode cX11_reading 33 = .ok (.iload_n 1, 1) := by decide +kernel
theorem dX11_reading_34 : decode cX11_reading 34 = .ok (.iaload, 1) := by decide +kernel
theorem dX11_reading_35 : decode cX11_reading 35 = .ok (.iadd, 1) := by decide +kernel
theorem dX11_reading_36 : decode cX11_reading 36 = .ok (.iconst 1, 1) := by decide +kernel
theorem dX11_reading_37 : decode cX11_reading 37 = .ok (.isub, 1) := by decide +kernel
theorem dX11_reading_38 : decode cX11_reading 38 = .ok (.iload_n 2, 1) := by decide +kernel
theorem dX11_reading_39 : decode cX11_reading 39 = .ok (.isub, 1) := by decide +kernel
theorem dX11_reading_40 : decode cX11_reading 40 = .ok (.iaload, 1) := by decide +kernel
theorem dX11_reading_41 : decode cX11_reading 41 = .ok (.iconst 1, 1) := by decide +kernel
theorem dX11_reading_42 : decode cX11_reading 42 = .ok (.invokevirtual 202, 3) := by decide +kernel
theorem dX11_reading_45 : decode cX11_reading 45 = .ok (.goto 5, 3) := by decide +kernel
theorem dX11_reading_48 : decode cX11_reading 48 = .ok (.bipush (-9), 2) := by decide +kernel
theorem dX11_reading_50 : decode cX11_reading 50 = .ok (.ireturn, 1) := by decide +kernel
set_option maxRecDepth 20000 in
theorem ggX11_lose_X11_isEight : GoodIn wsX11_lose wsX11_isEight := goodIn_r _ [6, 7, 8, 5, 9] (by decide +kernel) (by decide +kernel)
set_option maxRecDepth 20000 in
theorem gX11_lose_X11_isEight : GoodIn wsX11_lose (va_wsS RX11 305 yX11_isEight wsX11_isEight) := goodIn_app (goodIn_of _ (by decide +kernel)) ggX11_lose_X11_isEight
set_option maxRecDepth 20000 in
theorem ggX11_lose_X11_has : GoodIn wsX11_lose wsX11_has := goodIn_r _ [13, 14, 2, 1, 7, 8, 5, 9, 15, 16, 17, 18, 19, 20, 21, 22, 23, 24, 25, 26, 27, 28, 29, 30, 31, 32, 33, 34, 35, 36, 37, 38, 39, 40, 41, 42, 43, 44, 45, 46, 47, 48, 49, 50, 51, 52, 53, 54, 55, 56, 57, 58, 59, 60, 61, 62, 63, 64, 65, 66, 67, 68, 69, 70, 71, 72, 73, 74, 75, 76, 77, 78, 79, 80] (by decide +kernel) (by decide +kernel)
set_option maxRecDepth 20000 in
theorem gX11_lose_X11_has : GoodIn wsX11_lose (wsV RX11 308 RX11 yX11_has wsX11_has) := goodIn_app (goodIn_of _ (by decide +kernel)) ggX11_lose_X11_has
theorem dX11_lose_0 : decode cX11_lose 0 = .ok (.iload_n 1, 1) := by decide +kernel
theorem dX11_lose_1 : decode cX11_lose 1 = .ok (.invokestatic 305, 3) := by decide +kernel
theorem dX11_lose_4 : decode cX11_lose 4 = .ok (.ifCond .ne 5, 3) := by decide +kernel
theorem dX11_lose_7 : decode cX11_lose 7 = .ok (.iconst (-1), 1) := by decide +kernel
theorem dX11_lose_8 : decode cX11_lose 8 = .ok (.ireturn, 1) := by decide +kernel
theorem dX11_lose_9 : decode cX11_lose 9 = .ok (.aload_n 0, 1) := by decide +kernel
theorem dX11_lose_10 : decode cX11_lose 10 = .ok (.iload_n 1, 1) := by decide +kernel
theorem dX11_lose_11 : decode cX11_lose 11 = .ok (.iload_n 2, 1) := by decide +kernel
theorem dX11_lose_12 : decode cX11_lose 12 = .ok (.invokevirtual 308, 3) := by decide +kernel
theorem dX11_lose_15 : decode cX11_lose 15 = .ok (.ifCond .ne 6, 3) := by decide +kernel
theorem dX11_lose_18 : decode cX11_lose 18 = .ok (.bipush (-4), 2) := by decide +kernel
theorem dX11_lose_20 : decode cX11_lose 20 = .ok (.ireturn, 1) := by decide +kernel
theorem dX11_lose_21 : decode cX11_lose 21 = .ok (.aload_n 0, 1) := by decide +kernel
theorem dX11_lose_22 : decode cX11_lose 22 = .ok (.getfield 153, 3) := by decide +kernel
theorem dX11_lose_25 : decode cX11_lose 25 = .ok (.bipush 48, 2) := by decide +kernel
theorem dX11_lose_27 : decode cX11_lose 27 = .ok (.iload_n 1, 1) := by decide +kernel
theorem dX11_lose_28 : decode cX11_lose 28 = .ok (.imul, 1) := by decide +kernel
theorem dX11_lose_29 : decode cX11_lose 29 = .ok (.aload_n 0, 1) := by decide +kernel
theorem dX11_lose_30 : decode cX11_lose 30 = .ok (.getfield 147, 3) := by decide +kernel
theorem dX11_lose_33 : decode cX11_lose 33 = .ok (.iload_n 1, 1) := by decide +kernel
theorem dX11_lose_34 : decode cX11_lose 34 = .ok (.iaload, 1) := by decide +kernel
theorem dX11_lose_35 : decode cX11_lose 35 = .ok (.iadd, 1) := by decide +kernel
theorem dX11_lose_36 : decode cX11_lose 36 = .ok (.iconst 1, 1) := by decide +kernel
theorem dX11_lose_37 : decode cX11_lose 37 = .ok (.isub, 1) := by decide +kernel
theorem dX11_lose_38 : decode cX11_lose 38 = .ok (.iload_n 2, 1) := by decide +kernel
theorem dX11_lose_39 : decode cX11_lose 39 = .ok (.isub, 1) := by decide +kernel
theorem dX11_lose_40 : decode cX11_lose 40 = .ok (.iconst 1, 1) := by decide +kernel
theorem dX11_lose_41 : decode cX11_lose 41 = .ok (.bastore, 1) := by decide +kernel
theorem dX11_lose_42 : decode cX11_lose 42 = .ok (.iconst 1, 1) := by decide +kernel
theorem dX11_lose_43 : decode cX11_lose 43 = .ok (.ireturn, 1) := by decide +kernel
theorem dX11_sums_0 : decode cX11_sums 0 = .ok (.iconst 0, 1) := by decide +kernel
theorem dX11_sums_1 : decode cX11_sums 1 = .ok (.istore_n 3, 1) := by decide +kernel
theorem dX11_sums_2 : decode cX11_sums 2 = .ok (.aload_n 0, 1) := by decide +kernel
theorem dX11_sums_3 : decode cX11_sums 3 = .ok (.iconst 0, 1) := by decide +kernel
theorem dX11_sums_4 : decode cX11_sums 4 = .ok (.putfield 311, 3) := by decide +kernel
theorem dX11_sums_7 : decode cX11_sums 7 = .ok (.aload_n 0, 1) := by decide +kernel
theorem dX11_sums_8 : decode cX11_sums 8 = .ok (.iconst 0, 1) := by decide +kernel
theorem dX11_sums_9 : decode cX11_sums 9 = .ok (.putfield 314, 3) := by decide +kernel
theorem dX11_sums_12 : decode cX11_sums 12 = .ok (.iconst 0, 1) := by decide +kernel
theorem dX11_sums_13 : decode cX11_sums 13 = .ok (.istore 4, 2) := by decide +kernel
theorem dX11_sums_15 : decode cX11_sums 15 = .ok (.iload 4, 2) := by decide +kernel
theorem dX11_sums_17 : decode cX11_sums 17 = .ok (.aload_n 0, 1) := by decide +kernel
theorem dX11_sums_18 : decode cX11_sums 18 = .ok (.getfield 147, 3) := by decide +kernel
theorem dX11_sums_21 : decode cX11_sums 21 = .ok (.iload_n 1, 1) := by decide +kernel
theorem dX11_sums_22 : decode cX11_sums 22 = .ok (.iaload, 1) := by decide +kernel
theorem dX11_sums_23 : decode cX11_sums 23 = .ok (.if_icmp .ge 98, 3) := by decide +kernel
theorem dX11_sums_26 : decode cX11_sums 26 = .ok (.aload_n 0, 1) := by decide +kernel
theorem dX11_sums_27 : decode cX11_sums 27 = .ok (.getfield 153, 3) := by decide +kernel
theorem dX11_sums_30 : decode cX11_sums 30 = .ok (.bipush 48, 2) := by decide +kernel
theorem dX11_sums_32 : decode cX11_sums 32 = .ok (.iload_n 1, 1) := by decide +kernel
theorem dX11_sums_33 : decode cX11_sums 33 = .ok (.imul, 1) := by decide +kernel
theorem dX11_sums_34 : decode cX11_sums 34 = .ok (.iload 4, 2) := by decide +kernel
theorem dX11_sums_36 : decode cX11_sums 36 = .ok (.iadd, 1) := by decide +kernel
theorem dX11_sums_37 : decode cX11_sums 37 = .ok (.baload, 1) := by decide +kernel
theorem dX11_sums_38 : decode cX11_sums 38 = .ok (.ifCond .ne 77, 3) := by decide +kernel
theorem dX11_sums_41 : decode cX11_sums 41 = .ok (.aload_n 0, 1) := by decide +kernel
theorem dX11_sums_42 : decode cX11_sums 42 = .ok (.getfield 150, 3) := by decide +kernel
theorem dX11_sums_45 : decode cX11_sums 45 = .ok (.bipush 48, 2) := by decide +kernel
theorem dX11_sums_47 : decode cX11_sums 47 = .ok (.iload_n 1, 1) := by decide +kernel
theorem dX11_sums_48 : decode cX11_sums 48 = .ok (.imul, 1) := by decide +kernel
theorem dX11_sums_49 : decode cX11_sums 49 = .ok (.iload 4, 2) := by decide +kernel
theorem dX11_sums_51 : decode cX11_sums 51 = .ok (.iadd, 1) := by decide +kernel
theorem dX11_sums_52 : decode cX11_sums 52 = .ok (.iaload, 1) := by decide +kernel
theorem dX11_sums_53 : decode cX11_sums 53 = .ok (.istore 5, 2) := by decide +kernel
theorem dX11_sums_55 : decode cX11_sums 55 = .ok (.aload_n 0, 1) := by decide +kernel
theorem dX11_sums_56 : decode cX11_sums 56 = .ok (.dup, 1) := by decide +kernel
theorem dX11_sums_57 : decode cX11_sums 57 = .ok (.getfield 311, 3) := by decide +kernel
theorem dX11_sums_60 : decode cX11_sums 60 = .ok (.iload 4, 2) := by decide +kernel
theorem dX11_sums_62 : decode cX11_sums 62 = .ok (.iload_n 2, 1) := by decide +kernel
theorem dX11_sums_63 : decode cX11_sums 63 = .ok (.irem, 1) := by decide +kernel
theorem dX11_sums_64 : decode cX11_sums 64 = .ok (.iload_n 2, 1) := by decide +kernel
theorem dX11_sums_65 : decode cX11_sums 65 = .ok (.iconst 2, 1) := by decide +kernel
theorem dX11_sums_66 : decode cX11_sums 66 = .ok (.idiv, 1) := by decide +kernel
theorem dX11_sums_67 : decode cX11_sums 67 = .ok (.if_icmp .ge 8, 3) := by decide +kernel
theorem dX11_sums_70 : decode cX11_sums 70 = .ok (.iload 5, 2) := by decide +kernel
theorem dX11_sums_72 : decode cX11_sums 72 = .ok (.goto 6, 3) := by decide +kernel
theorem dX11_sums_75 : decode cX11_sums 75 = .ok (.iload 5, 2) := by decide +kernel
theorem dX11_sums_77 : decode cX11_sums 77 = .ok (.ineg, 1) := by decide +kernel
theorem dX11_sums_78 : decode cX11_sums 78 = .ok (.iadd, 1) := by decide +kernel
theorem dX11_sums_79 : decode cX11_sums 79 = .ok (.putfield 311, 3) := by decide +kernel
theorem dX11_sums_82 : decode cX11_sums 82 = .ok (.aload_n 0, 1) := by decide +kernel
theorem dX11_sums_83 : decode cX11_sums 83 = .ok (.dup, 1) := by decide +kernel
theorem dX11_sums_84 : decode cX11_sums 84 = .ok (.getfield 314, 3) := by decide +kernel
theorem dX11_sums_87 : decode cX11_sums 87 = .ok (.iload 4, 2) := by decide +kernel
theorem dX11_sums_89 : decode cX11_sums 89 = .ok (.iload_n 2, 1) := by decide +kernel
theorem dX11_sums_90 : decode cX11_sums 90 = .ok (.iconst 4, 1) := by decide +kernel
theorem dX11_sums_91 : decode cX11_sums 91 = .ok (.idiv, 1) := by decide +kernel
theorem dX11_sums_92 : decode cX11_sums 92 = .ok (.iadd, 1) := by decide +kernel
theorem dX11_sums_93 : decode cX11_sums 93 = .ok (.iload_n 2, 1) := by decide +kernel
theorem dX11_sums_94 : decode cX11_sums 94 = .ok (.irem, 1) := by decide +kernel
theorem dX11_sums_95 : decode cX11_sums 95 = .ok (.iload_n 2, 1) := by decide +kernel
theorem dX11_sums_96 : decode cX11_sums 96 = .ok (.iconst 2, 1) := by decide +kernel
theorem dX11_sums_97 : decode cX11_sums 97 = .ok (.idiv, 1) := by decide +kernel
theorem dX11_sums_98 : decode cX11_sums 98 = .ok (.if_icmp .ge 8, 3) := by decide +kernel
theorem dX11_sums_101 : decode cX11_sums 101 = .ok (.iload 5, 2) := by decide +kernel
theorem dX11_sums_103 : decode cX11_sums 103 = .ok (.goto 6, 3) := by decide +kernel
theorem dX11_sums_106 : decode cX11_sums 106 = .ok (.iload 5, 2) := by decide +kernel
theorem dX11_sums_108 : decode cX11_sums 108 = .ok (.ineg, 1) := by decide +kernel
theorem dX11_sums_109 : decode cX11_sums 109 = .ok (.iadd, 1) := by decide +kernel
theorem dX11_sums_110 : decode cX11_sums 110 = .ok (.putfield 314, 3) := by decide +kernel
theorem dX11_sums_113 : decode cX11_sums 113 = .ok (.iconst 1, 1) := by decide +kernel
theorem dX11_sums_114 : decode cX11_sums 114 = .ok (.istore_n 3, 1) := by decide +kernel
theorem dX11_sums_115 : decode cX11_sums 115 = .ok (.iinc 4 1, 3) := by decide +kernel
theorem dX11_sums_118 : decode cX11_sums 118 = .ok (.goto (-103), 3) := by decide +kernel
theorem dX11_sums_121 : decode cX11_sums 121 = .ok (.iload_n 3, 1) := by decide +kernel
theorem dX11_sums_122 : decode cX11_sums 122 = .ok (.ireturn, 1) := by decide +kernel
theorem dX11_strong_0 : decode cX11_strong 0 = .ok (.aload_n 0, 1) := by decide +kernel
theorem dX11_strong_1 : decode cX11_strong 1 = .ok (.getfield 311, 3) := by decide +kernel
theorem dX11_strong_4 : decode cX11_strong 4 = .ok (.i2l, 1) := by decide +kernel
theorem dX11_strong_5 : decode cX11_strong 5 = .ok (.aload_n 0, 1) := by decide +kernel
theorem dX11_strong_6 : decode cX11_strong 6 = .ok (.getfield 311, 3) := by decide +kernel
theorem dX11_strong_9 : decode cX11_strong 9 = .ok (.i2l, 1) := by decide +kernel
theorem dX11_strong_10 : decode cX11_strong 10 = .ok (.lmul, 1) := by decide +kernel
theorem dX11_strong_11 : decode cX11_strong 11 = .ok (.aload_n 0, 1) := by decide +kernel
theorem dX11_strong_12 : decode cX11_strong 12 = .ok (.getfield 314, 3) := by decide +kernel
theorem dX11_strong_15 : decode cX11_strong 15 = .ok (.i2l, 1) := by decide +kernel
theorem dX11_strong_16 : decode cX11_strong 16 = .ok (.aload_n 0, 1) := by decide +kernel
theorem dX11_strong_17 : decode cX11_strong 17 = .ok (.getfield 314, 3) := by decide +kernel
theorem dX11_strong_20 : decode cX11_strong 20 = .ok (.i2l, 1) := by decide +kernel
theorem dX11_strong_21 : decode cX11_strong 21 = .ok (.lmul, 1) := by decide +kernel
theorem dX11_strong_22 : decode cX11_strong 22 = .ok (.ladd, 1) := by decide +kernel
theorem dX11_strong_23 : decode cX11_strong 23 = .ok (.lreturn, 1) := by decide +kernel
set_option maxRecDepth 20000 in
theorem ggX11_tone_X11_isEight : GoodIn wsX11_tone wsX11_isEight := goodIn_r _ [11, 12, 13, 10, 14] (by decide +kernel) (by decide +kernel)
set_option maxRecDepth 20000 in
theorem gX11_tone_X11_isEight : GoodIn wsX11_tone (va_wsS RX11 305 yX11_isEight wsX11_isEight) := goodIn_app (goodIn_of _ (by decide +kernel)) ggX11_tone_X11_isEight
set_option maxRecDepth 20000 in
theorem ggX11_tone_X11_in : GoodIn wsX11_tone wsX11_in := goodIn_r _ [14] (by decide +kernel) (by decide +kernel)
set_option maxRecDepth 20000 in
theorem gX11_tone_X11_in : GoodIn wsX11_tone (va_wsS RX11 182 yX11_in wsX11_in) := goodIn_app (goodIn_of _ (by decide +kernel)) ggX11_tone_X11_in
set_option maxRecDepth 20000 in
theorem ggX11_tone_X11_sums : GoodIn wsX11_tone wsX11_sums := goodIn_r _ [18, 3, 5, 19, 20, 21, 32, 33, 34, 35, 36, 37, 38, 39, 40, 41, 42, 43, 44, 45, 46, 47, 48, 49, 50, 51, 52, 53, 54, 55, 56, 57, 58, 59, 60, 61, 62, 63, 64, 65, 66, 67, 68, 69, 70, 71, 72, 73, 74, 75, 76, 77, 78, 79, 80, 81, 82, 83, 84, 85, 86, 87, 88, 89, 90, 91, 92, 93, 94, 95, 96, 97] (by decide +kernel) (by decide +kernel)
set_option maxRecDepth 20000 in
theorem gX11_tone_X11_sums : GoodIn wsX11_tone (wsV RX11 317 RX11 yX11_sums wsX11_sums) := goodIn_app (goodIn_of _ (by decide +kernel)) ggX11_tone_X11_sums
set_option maxRecDepth 20000 in
theorem ggX11_tone_X11_meets : GoodIn wsX11_tone wsX11_meets := goodIn_r _ [25, 26, 27, 32, 33, 34, 35, 36, 37, 38, 39, 40, 41, 42, 43, 44, 45, 46, 47, 48, 49, 50, 51, 52, 53, 54, 55, 56, 57, 58, 59, 60, 61, 62, 63, 64, 65, 66, 67, 68, 69, 70, 71, 72, 73, 74, 75, 76, 77, 78, 79, 80, 81, 82, 83, 84, 85, 86, 87, 88, 89, 90, 91, 92, 93, 94, 95, 96, 97] (by decide +kernel) (by decide +kernel)
set_option maxRecDepth 20000 in
theorem gX11_tone_X11_meets : GoodIn wsX11_tone (wsV RX11 190 RX11 yX11_meets wsX11_meets) := goodIn_app (goodIn_of _ (by decide +kernel)) ggX11_tone_X11_meets
set_option maxRecDepth 20000 in
theorem ggX11_tone_X11_strong : GoodIn wsX11_tone wsX11_strong := goodIn_r _ [31, 3, 5, 32, 33, 34, 35, 36, 37, 38, 39, 40, 41, 42, 43, 44, 45, 46, 47, 48, 49, 50, 51, 52, 53, 54, 55, 56, 57, 58, 59, 60, 61, 62, 63, 64, 65, 66, 67, 68, 69, 70, 71, 72, 73, 74, 75, 76, 77, 78, 79, 80, 81, 82, 83, 84, 85, 86, 87, 88, 89, 90, 91, 92, 93, 94, 95, 96, 97] (by decide +kernel) (by decide +kernel)
set_option maxRecDepth 20000 in
theorem gX11_tone_X11_strong : GoodIn wsX11_tone (wsV RX11 330 RX11 yX11_strong wsX11_strong) := goodIn_app (goodIn_of _ (by decide +kernel)) ggX11_tone_X11_strong
theorem dX11_tone_0 : decode cX11_tone 0 = .ok (.iload_n 1, 1) := by decide +kernel
theorem dX11_tone_1 : decode cX11_tone 1 = .ok (.invokestatic 305, 3) := by decide +kernel
theorem dX11_tone_4 : decode cX11_tone 4 = .ok (.ifCond .eq 19, 3) := by decide +kernel
theorem dX11_tone_7 : decode cX11_tone 7 = .ok (.iload_n 2, 1) := by decide +kernel
theorem dX11_tone_8 : decode cX11_tone 8 = .ok (.iconst 4, 1) := by decide +kernel
theorem dX11_tone_9 : decode cX11_tone 9 = .ok (.bipush 48, 2) := by decide +kernel
theorem dX11_tone_11 : decode cX11_tone 11 = .ok (.invokestatic 182, 3) := by decide +kernel
theorem dX11_tone_14 : decode cX11_tone 14 = .ok (.ifCond .eq 9, 3) := by decide +kernel
theorem dX11_tone_17 : decode cX11_tone 17 = .ok (.iload_n 2, 1) := by decide +kernel
theorem dX11_tone_18 : decode cX11_tone 18 = .ok (.iconst 4, 1) := by decide +kernel
theorem dX11_tone_19 : decode cX11_tone 19 = .ok (.irem, 1) := by decide +kernel
theorem dX11_tone_20 : decode cX11_tone 20 = .ok (.ifCond .eq 5, 3) := by decide +kernel
theorem dX11_tone_23 : decode cX11_tone 23 = .ok (.iconst (-1), 1) := by decide +kernel
theorem dX11_tone_24 : decode cX11_tone 24 = .ok (.ireturn, 1) := by decide +kernel
theorem dX11_tone_25 : decode cX11_tone 25 = .ok (.aload_n 0, 1) := by decide +kernel
theorem dX11_tone_26 : decode cX11_tone 26 = .ok (.getfield 141, 3) := by decide +kernel
theorem dX11_tone_29 : decode cX11_tone 29 = .ok (.iload_n 1, 1) := by decide +kernel
theorem dX11_tone_30 : decode cX11_tone 30 = .ok (.iaload, 1) := by decide +kernel
theorem dX11_tone_31 : decode cX11_tone 31 = .ok (.ifCond .ge 6, 3) := by decide +kernel
theorem dX11_tone_34 : decode cX11_tone 34 = .ok (.bipush (-4), 2) := by decide +kernel
theorem dX11_tone_36 : decode cX11_tone 36 = .ok (.ireturn, 1) := by decide +kernel
theorem dX11_tone_37 : decode cX11_tone 37 = .ok (.aload_n 0, 1) := by decide +kernel
theorem dX11_tone_38 : decode cX11_tone 38 = .ok (.iload_n 1, 1) := by decide +kernel
theorem dX11_tone_39 : decode cX11_tone 39 = .ok (.iload_n 2, 1) := by decide +kernel
theorem dX11_tone_40 : decode cX11_tone 40 = .ok (.invokevirtual 317, 3) := by decide +kernel
theorem dX11_tone_43 : decode cX11_tone 43 = .ok (.ifCond .ne 9, 3) := by decide +kernel
theorem dX11_tone_46 : decode cX11_tone 46 = .ok (.aload_n 0, 1) := by decide +kernel
theorem dX11_tone_47 : decode cX11_tone 47 = .ok (.iconst 4, 1) := by decide +kernel
theorem dX11_tone_48 : decode cX11_tone 48 = .ok (.invokevirtual 190, 3) := by decide +kernel
theorem dX11_tone_51 : decode cX11_tone 51 = .ok (.ireturn, 1) := by decide +kernel
theorem dX11_tone_52 : decode cX11_tone 52 = .ok (.aload_n 0, 1) := by decide +kernel
theorem dX11_tone_53 : decode cX11_tone 53 = .ok (.iconst 1, 1) := by decide +kernel
theorem dX11_tone_54 : decode cX11_tone 54 = .ok (.putfield 320, 3) := by decide +kernel
theorem dX11_tone_57 : decode cX11_tone 57 = .ok (.aload_n 0, 1) := by decide +kernel
theorem dX11_tone_58 : decode cX11_tone 58 = .ok (.aload_n 0, 1) := by decide +kernel
theorem dX11_tone_59 : decode cX11_tone 59 = .ok (.getfield 311, 3) := by decide +kernel
theorem dX11_tone_62 : decode cX11_tone 62 = .ok (.putfield 324, 3) := by decide +kernel
theorem dX11_tone_65 : decode cX11_tone 65 = .ok (.aload_n 0, 1) := by decide +kernel
theorem dX11_tone_66 : decode cX11_tone 66 = .ok (.aload_n 0, 1) := by decide +kernel
theorem dX11_tone_67 : decode cX11_tone 67 = .ok (.getfield 314, 3) := by decide +kernel
theorem dX11_tone_70 : decode cX11_tone 70 = .ok (.putfield 327, 3) := by decide +kernel
theorem dX11_tone_73 : decode cX11_tone 73 = .ok (.aload_n 0, 1) := by decide +kernel
theorem dX11_tone_74 : decode cX11_tone 74 = .ok (.aload_n 0, 1) := by decide +kernel
theorem dX11_tone_75 : decode cX11_tone 75 = .ok (.invokevirtual 330, 3) := by decide +kernel
theorem dX11_tone_78 : decode cX11_tone 78 = .ok (.putfield 334, 3) := by decide +kernel
theorem dX11_tone_81 : decode cX11_tone 81 = .ok (.iconst 1, 1) := by decide +kernel
theorem dX11_tone_82 : decode cX11_tone 82 = .ok (.ireturn, 1) := by decide +kernel
set_option maxRecDepth 20000 in
theorem ggX11_theTone_X11_isEight : GoodIn wsX11_theTone wsX11_isEight := goodIn_r _ [5, 6, 7, 4, 8] (by decide +kernel) (by decide +kernel)
set_option maxRecDepth 20000 in
theorem gX11_theTone_X11_isEight : GoodIn wsX11_theTone (va_wsS RX11 305 yX11_isEight wsX11_isEight) := goodIn_app (goodIn_of _ (by decide +kernel)) ggX11_theTone_X11_isEight
set_option maxRecDepth 20000 in
theorem ggX11_theTone_X11_sums : GoodIn wsX11_theTone wsX11_sums := goodIn_r _ [12, 13, 14, 15, 16, 17, 28, 29, 30, 31, 32, 33, 34, 35, 36, 37, 38, 39, 40, 41, 42, 43, 44, 45, 46, 47, 48, 49, 50, 51, 52, 53, 54, 55, 56, 57, 58, 59, 60, 61, 62, 63, 64, 65, 66, 67, 68, 69, 70, 71, 72, 73, 74, 75, 76, 77, 78, 79, 80, 81, 82, 83, 84, 85, 86, 87, 88, 89, 90, 91, 92, 93] (by decide +kernel) (by decide +kernel)
set_option maxRecDepth 20000 in
theorem gX11_theTone_X11_sums : GoodIn wsX11_theTone (wsV RX11 317 RX11 yX11_sums wsX11_sums) := goodIn_app (goodIn_of _ (by decide +kernel)) ggX11_theTone_X11_sums
set_option maxRecDepth 20000 in
theorem ggX11_theTone_X11_meets : GoodIn wsX11_theTone wsX11_meets := goodIn_r _ [21, 22, 23, 28, 29, 30, 31, 32, 33, 34, 35, 36, 37, 38, 39, 40, 41, 42, 43, 44, 45, 46, 47, 48, 49, 50, 51, 52, 53, 54, 55, 56, 57, 58, 59, 60, 61, 62, 63, 64, 65, 66, 67, 68, 69, 70, 71, 72, 73, 74, 75, 76, 77, 78, 79, 80, 81, 82, 83, 84, 85, 86, 87, 88, 89, 90, 91, 92, 93] (by decide +kernel) (by decide +kernel)
set_option maxRecDepth 20000 in
theorem gX11_theTone_X11_meets : GoodIn wsX11_theTone (wsV RX11 190 RX11 yX11_meets wsX11_meets) := goodIn_app (goodIn_of _ (by decide +kernel)) ggX11_theTone_X11_meets
set_option maxRecDepth 20000 in
theorem ggX11_theTone_X11_strong : GoodIn wsX11_theTone wsX11_strong := goodIn_r _ [27, 13, 14, 28, 29, 30, 31, 32, 33, 34, 35, 36, 37, 38, 39, 40, 41, 42, 43, 44, 45, 46, 47, 48, 49, 50, 51, 52, 53, 54, 55, 56, 57, 58, 59, 60, 61, 62, 63, 64, 65, 66, 67, 68, 69, 70, 71, 72, 73, 74, 75, 76, 77, 78, 79, 80, 81, 82, 83, 84, 85, 86, 87, 88, 89, 90, 91, 92, 93] (by decide +kernel) (by decide +kernel)
set_option maxRecDepth 20000 in
theorem gX11_theTone_X11_strong : GoodIn wsX11_theTone (wsV RX11 330 RX11 yX11_strong wsX11_strong) := goodIn_app (goodIn_of _ (by decide +kernel)) ggX11_theTone_X11_strong
theorem dX11_theTone_0 : decode cX11_theTone 0 = .ok (.iload_n 1, 1) := by decide +kernel
theorem dX11_theTone_1 : decode cX11_theTone 1 = .ok (.invokestatic 305, 3) := by decide +kernel
theorem dX11_theTone_4 : decode cX11_theTone 4 = .ok (.ifCond .ne 5, 3) := by decide +kernel
theorem dX11_theTone_7 : decode cX11_theTone 7 = .ok (.iconst (-1), 1) := by decide +kernel
theorem dX11_theTone_8 : decode cX11_theTone 8 = .ok (.ireturn, 1) := by decide +kernel
theorem dX11_theTone_9 : decode cX11_theTone 9 = .ok (.aload_n 0, 1) := by decide +kernel
theorem dX11_theTone_10 : decode cX11_theTone 10 = .ok (.getfield 141, 3) := by decide +kernel
theorem dX11_theTone_13 : decode cX11_theTone 13 = .ok (.iload_n 1, 1) := by decide +kernel
theorem dX11_theTone_14 : decode cX11_theTone 14 = .ok (.iaload, 1) := by decide +kernel
theorem dX11_theTone_15 : decode cX11_theTone 15 = .ok (.ifCond .ge 6, 3) := by decide +kernel
theorem dX11_theTone_18 : decode cX11_theTone 18 = .ok (.bipush (-4), 2) := by decide +kernel
theorem dX11_theTone_20 : decode cX11_theTone 20 = .ok (.ireturn, 1) := by decide +kernel
theorem dX11_theTone_21 : decode cX11_theTone 21 = .ok (.bipush (-9), 2) := by decide +kernel
theorem dX11_theTone_23 : decode cX11_theTone 23 = .ok (.istore_n 2, 1) := by decide +kernel
theorem dX11_theTone_24 : decode cX11_theTone 24 = .ok (.lconst 0, 1) := by decide +kernel
theorem dX11_theTone_25 : decode cX11_theTone 25 = .ok (.lstore_n 3, 1) := by decide +kernel
theorem dX11_theTone_26 : decode cX11_theTone 26 = .ok (.iconst 4, 1) := by decide +kernel
theorem dX11_theTone_27 : decode cX11_theTone 27 = .ok (.istore 5, 2) := by decide +kernel
theorem dX11_theTone_29 : decode cX11_theTone 29 = .ok (.iload 5, 2) := by decide +kernel
theorem dX11_theTone_31 : decode cX11_theTone 31 = .ok (.bipush 48, 2) := by decide +kernel
theorem dX11_theTone_33 : decode cX11_theTone 33 = .ok (.if_icmp .gt 46, 3) := by decide +kernel
theorem dX11_theTone_36 : decode cX11_theTone 36 = .ok (.aload_n 0, 1) := by decide +kernel
theorem dX11_theTone_37 : decode cX11_theTone 37 = .ok (.iload_n 1, 1) := by decide +kernel
theorem dX11_theTone_38 : decode cX11_theTone 38 = .ok (.iload 5, 2) := by decide +kernel
theorem dX11_theTone_40 : decode cX11_theTone 40 = .ok (.invokevirtual 317, 3) := by decide +kernel
theorem dX11_theTone_43 : decode cX11_theTone 43 = .ok (.ifCond .ne 9, 3) := by decide +kernel
theorem dX11_theTone_46 : decode cX11_theTone 46 = .ok (.aload_n 0, 1) := by decide +kernel
theorem dX11_theTone_47 : decode cX11_theTone 47 = .ok (.iconst 4, 1) := by decide +kernel
theorem dX11_theTone_48 : decode cX11_theTone 48 = .ok (.invokevirtual 190, 3) := by decide +kernel
theorem dX11_theTone_51 : decode cX11_theTone 51 = .ok (.ireturn, 1) := by decide +kernel
theorem dX11_theTone_52 : decode cX11_theTone 52 = .ok (.iload_n 2, 1) := by decide +kernel
theorem dX11_theTone_53 : decode cX11_theTone 53 = .ok (.ifCond .lt 12, 3) := by decide +kernel
theorem dX11_theTone_56 : decode cX11_theTone 56 = .ok (.aload_n 0, 1) := by decide +kernel
theorem dX11_theTone_57 : decode cX11_theTone 57 = .ok (.invokevirtual 330, 3) := by decide +kernel
theorem dX11_theTone_60 : decode cX11_theTone 60 = .ok (.lload_n 3, 1) := by decide +kernel
theorem dX11_theTone_61 : decode cX11_theTone 61 = .ok (.lcmp, 1) := by decide +kernel
theorem dX11_theTone_62 : decode cX11_theTone 62 = .ok (.ifCond .le 11, 3) := by decide +kernel
theorem dX11_theTone_65 : decode cX11_theTone 65 = .ok (.iload 5, 2) := by decide +kernel
theorem dX11_theTone_67 : decode cX11_theTone 67 = .ok (.istore_n 2, 1) := by decide +kernel
theorem dX11_theTone_68 : decode cX11_theTone 68 = .ok (.aload_n 0, 1) := by decide +kernel
theorem dX11_theTone_69 : decode cX11_theTone 69 = .ok (.invokevirtual 330, 3) := by decide +kernel
theorem dX11_theTone_72 : decode cX11_theTone 72 = .ok (.lstore_n 3, 1) := by decide +kernel
theorem dX11_theTone_73 : decode cX11_theTone 73 = .ok (.iinc 5 4, 3) := by decide +kernel
theorem dX11_theTone_76 : decode cX11_theTone 76 = .ok (.goto (-47), 3) := by decide +kernel
theorem dX11_theTone_79 : decode cX11_theTone 79 = .ok (.iload_n 2, 1) := by decide +kernel
theorem dX11_theTone_80 : decode cX11_theTone 80 = .ok (.ireturn, 1) := by decide +kernel
set_option maxRecDepth 20000 in
theorem ggX11_part_X11_ask : GoodIn wsX11_part wsX11_ask := goodIn_r _ [8, 9, 10, 11, 12, 13, 14, 15, 16, 17, 18, 19, 20, 21, 22, 23, 24, 25, 26, 27, 28, 29, 30, 31, 32, 33, 34, 35, 36, 37, 38, 39, 40, 41, 42, 43, 44, 45, 46, 47, 48, 49, 50, 51, 52, 53, 54, 55, 56, 57, 58, 59, 60, 61, 62, 63, 64, 65, 66, 67, 68, 69, 70, 71, 72, 73, 74, 75] (by decide +kernel) (by decide +kernel)
set_option maxRecDepth 20000 in
theorem gX11_part_X11_ask : GoodIn wsX11_part (wsV RX11 202 RX11 yX11_ask wsX11_ask) := goodIn_app (goodIn_of _ (by decide +kernel)) ggX11_part_X11_ask
theorem dX11_part_0 : decode cX11_part 0 = .ok (.aload_n 0, 1) := by decide +kernel
theorem dX11_part_1 : decode cX11_part 1 = .ok (.getfield 320, 3) := by decide +kernel
theorem dX11_part_4 : decode cX11_part 4 = .ok (.ifCond .eq 26, 3) := by decide +kernel
theorem dX11_part_7 : decode cX11_part 7 = .ok (.aload_n 0, 1) := by decide +kernel
theorem dX11_part_8 : decode cX11_part 8 = .ok (.iload_n 1, 1) := by decide +kernel
theorem dX11_part_9 : decode cX11_part 9 = .ok (.ifCond .eq 10, 3) := by decide +kernel
theorem dX11_part_12 : decode cX11_part 12 = .ok (.aload_n 0, 1) := by decide +kernel
theorem dX11_part_13 : decode cX11_part 13 = .ok (.getfield 327, 3) := by decide +kernel
theorem dX11_part_16 : decode cX11_part 16 = .ok (.goto 7, 3) := by decide +kernel
theorem dX11_part_19 : decode cX11_part 19 = .ok (.aload_n 0, 1) := by decide +kernel
theorem dX11_part_20 : decode cX11_part 20 = .ok (.getfield 324, 3) := by decide +kernel
theorem dX11_part_23 : decode cX11_part 23 = .ok (.iconst 1, 1) := by decide +kernel
theorem dX11_part_24 : decode cX11_part 24 = .ok (.invokevirtual 202, 3) := by decide +kernel
theorem dX11_part_27 : decode cX11_part 27 = .ok (.goto 5, 3) := by decide +kernel
theorem dX11_part_30 : decode cX11_part 30 = .ok (.bipush (-4), 2) := by decide +kernel
theorem dX11_part_32 : decode cX11_part 32 = .ok (.ireturn, 1) := by decide +kernel
set_option maxRecDepth 20000 in
theorem ggX11_nest_X11_isSix : GoodIn wsX11_nest wsX11_isSix := goodIn_r _ [12, 13, 14, 11, 15] (by decide +kernel) (by decide +kernel)
set_option maxRecDepth 20000 in
theorem gX11_nest_X11_isSix : GoodIn wsX11_nest (va_wsS RX11 186 yX11_isSix wsX11_isSix) := goodIn_app (goodIn_of _ (by decide +kernel)) ggX11_nest_X11_isSix
set_option maxRecDepth 20000 in
theorem ggX11_nest_X11_in : GoodIn wsX11_nest wsX11_in := goodIn_r _ [15] (by decide +kernel) (by decide +kernel)
set_option maxRecDepth 20000 in
theorem gX11_nest_X11_in : GoodIn wsX11_nest (va_wsS RX11 182 yX11_in wsX11_in) := goodIn_app (goodIn_of _ (by decide +kernel)) ggX11_nest_X11_in
set_option maxRecDepth 20000 in
theorem ggX11_nest_X11_askedFor : GoodIn wsX11_nest wsX11_askedFor := goodIn_r _ [19, 20, 9, 10, 11, 12, 13, 14, 15, 21, 22, 23, 24, 25, 26, 64, 65, 66, 67, 68, 69, 70, 71, 72, 73, 74, 75, 76, 77, 78, 79, 80, 81, 82, 83, 84, 85, 86, 87, 88, 89, 90, 91, 92, 93, 94, 95, 96, 97, 98, 99, 100, 101, 102, 103, 104, 105, 106, 107, 108, 109, 110, 111, 112, 113, 114, 115, 116, 117, 118, 119, 120, 121, 122, 123, 124, 125, 126, 127, 128, 129] (by decide +kernel) (by decide +kernel)
set_option maxRecDepth 20000 in
theorem gX11_nest_X11_askedFor : GoodIn wsX11_nest (wsV RX11 237 RX11 yX11_askedFor wsX11_askedFor) := goodIn_app (goodIn_of _ (by decide +kernel)) ggX11_nest_X11_askedFor
set_option maxRecDepth 20000 in
theorem ggX11_nest_X11_liesIn : GoodIn wsX11_nest wsX11_liesIn := goodIn_r _ [30, 20, 3, 64, 65, 66, 67, 68, 69, 70, 71, 72, 73, 74, 75, 76, 77, 78, 79, 80, 81, 82, 83, 84, 85, 86, 87, 88, 89, 90, 91, 92, 93, 94, 95, 96, 97, 98, 99, 100, 101, 102, 103, 104, 105, 106, 107, 108, 109, 110, 111, 112, 113, 114, 115, 116, 117, 118, 119, 120, 121, 122, 123, 124, 125, 126, 127, 128, 129] (by decide +kernel) (by decide +kernel)
set_option maxRecDepth 20000 in
theorem gX11_nest_X11_liesIn : GoodIn wsX11_nest (wsV RX11 296 RX11 yX11_liesIn wsX11_liesIn) := goodIn_app (goodIn_of _ (by decide +kernel)) ggX11_nest_X11_liesIn
set_option maxRecDepth 20000 in
theorem ggX11_nest_X11_clear : GoodIn wsX11_nest wsX11_clear := goodIn_r _ [34, 20, 3, 35, 36, 64, 65, 66, 67, 68, 69, 70, 71, 72, 73, 74, 75, 76, 77, 78, 79, 80, 81, 82, 83, 84, 85, 86, 87, 88, 89, 90, 91, 92, 93, 94, 95, 96, 97, 98, 99, 100, 101, 102, 103, 104, 105, 106, 107, 108, 109, 110, 111, 112, 113, 114, 115, 116, 117, 118, 119, 120, 121, 122, 123, 124, 125, 126, 127, 128, 129] (by decide +kernel) (by decide +kernel)
set_option maxRecDepth 20000 in
theorem gX11_nest_X11_clear : GoodIn wsX11_nest (wsV RX11 229 RX11 yX11_clear wsX11_clear) := goodIn_app (goodIn_of _ (by decide +kernel)) ggX11_nest_X11_clear
set_option maxRecDepth 20000 in
theorem ggX11_nest_X11_begin : GoodIn wsX11_nest wsX11_begin := goodIn_r _ [40, 20, 1, 2, 41, 42, 43, 44, 45, 46, 47, 48, 49, 50, 51, 8, 7, 6, 52, 53, 54, 55, 64, 65, 66, 67, 68, 69, 70, 71, 72, 73, 74, 75, 76, 77, 78, 79, 80, 81, 82, 83, 84, 85, 86, 87, 88, 89, 90, 91, 92, 93, 94, 95, 96, 97, 98, 99, 100, 101, 102, 103, 104, 105, 106, 107, 108, 109, 110, 111, 112, 113, 114, 115, 116, 117, 118, 119, 120, 121, 122, 123, 124, 125, 126, 127, 128, 129] (by decide +kernel) (by decide +kernel)
set_option maxRecDepth 20000 in
theorem gX11_nest_X11_begin : GoodIn wsX11_nest (wsV RX11 233 RX11 yX11_begin wsX11_begin) := goodIn_app (goodIn_of _ (by decide +kernel)) ggX11_nest_X11_begin
set_option maxRecDepth 20000 in
theorem ggX11_nest_X11_beneath : GoodIn wsX11_nest wsX11_beneath := goodIn_r _ [59, 1, 5, 3, 4, 64, 65, 66, 67, 68, 69, 70, 71, 72, 73, 74, 75, 76, 77, 78, 79, 80, 81, 82, 83, 84, 85, 86, 87, 88, 89, 90, 91, 92, 93, 94, 95, 96, 97, 98, 99, 100, 101, 102, 103, 104, 105, 106, 107, 108, 109, 110, 111, 112, 113, 114, 115, 116, 117, 118, 119, 120, 121, 122, 123, 124, 125, 126, 127, 128, 129] (by decide +kernel) (by decide +kernel)
set_option maxRecDepth 20000 in
theorem gX11_nest_X11_beneath : GoodIn wsX11_nest (wsV RX11 337 RX11 yX11_beneath wsX11_beneath) := goodIn_app (goodIn_of _ (by decide +kernel)) ggX11_nest_X11_beneath
set_option maxRecDepth 20000 in
theorem ggX11_nest_X11_fine : GoodIn wsX11_nest wsX11_fine := goodIn_r _ [63, 1, 64, 65, 66, 67, 68, 69, 70, 71, 72, 73, 74, 75, 76, 77, 78, 79, 80, 81, 82, 83, 84, 85, 86, 87, 88, 89, 90, 91, 92, 93, 94, 95, 96, 97, 98, 99, 100, 101, 102, 103, 104, 105, 106, 107, 108, 109, 110, 111, 112, 113, 114, 115, 116, 117, 118, 119, 120, 121, 122, 123, 124, 125, 126, 127, 128, 129] (by decide +kernel) (by decide +kernel)
set_option maxRecDepth 20000 in
theorem gX11_nest_X11_fine : GoodIn wsX11_nest (wsV RX11 340 RX11 yX11_fine wsX11_fine) := goodIn_app (goodIn_of _ (by decide +kernel)) ggX11_nest_X11_fine
theorem dX11_nest_0 : decode cX11_nest 0 = .ok (.iload_n 1, 1) := by decide +kernel
theorem dX11_nest_1 : decode cX11_nest 1 = .ok (.invokestatic 186, 3) := by decide +kernel
theorem dX11_nest_4 : decode cX11_nest 4 = .ok (.ifCond .eq 44, 3) := by decide +kernel
theorem dX11_nest_7 : decode cX11_nest 7 = .ok (.iload_n 2, 1) := by decide +kernel
theorem dX11_nest_8 : decode cX11_nest 8 = .ok (.invokestatic 186, 3) := by decide +kernel
theorem dX11_nest_11 : decode cX11_nest 11 = .ok (.ifCond .eq 37, 3) := by decide +kernel
theorem dX11_nest_14 : decode cX11_nest 14 = .ok (.iload_n 1, 1) := by decide +kernel
theorem dX11_nest_15 : decode cX11_nest 15 = .ok (.iload_n 2, 1) := by decide +kernel
theorem dX11_nest_16 : decode cX11_nest 16 = .ok (.if_icmp .eq 32, 3) := by decide +kernel
theorem dX11_nest_19 : decode cX11_nest 19 = .ok (.iload 5, 2) := by decide +kernel
theorem dX11_nest_21 : decode cX11_nest 21 = .ok (.iconst 1, 1) := by decide +kernel
theorem dX11_nest_22 : decode cX11_nest 22 = .ok (.iconst 4, 1) := by decide +kernel
theorem dX11_nest_23 : decode cX11_nest 23 = .ok (.invokestatic 182, 3) := by decide +kernel
theorem dX11_nest_26 : decode cX11_nest 26 = .ok (.ifCond .eq 22, 3) := by decide +kernel
theorem dX11_nest_29 : decode cX11_nest 29 = .ok (.iload 6, 2) := by decide +kernel
theorem dX11_nest_31 : decode cX11_nest 31 = .ok (.iconst 1, 1) := by decide +kernel
theorem dX11_nest_32 : decode cX11_nest 32 = .ok (.iconst 3, 1) := by decide +kernel
theorem dX11_nest_33 : decode cX11_nest 33 = .ok (.invokestatic 182, 3) := by decide +kernel
theorem dX11_nest_36 : decode cX11_nest 36 = .ok (.ifCond .eq 12, 3) := by decide +kernel
theorem dX11_nest_39 : decode cX11_nest 39 = .ok (.iload_n 3, 1) := by decide +kernel
theorem dX11_nest_40 : decode cX11_nest 40 = .ok (.ifCond .lt 8, 3) := by decide +kernel
theorem dX11_nest_43 : decode cX11_nest 43 = .ok (.iload 4, 2) := by decide +kernel
theorem dX11_nest_45 : decode cX11_nest 45 = .ok (.ifCond .ge 5, 3) := by decide +kernel
theorem dX11_nest_48 : decode cX11_nest 48 = .ok (.iconst (-1), 1) := by decide +kernel
theorem dX11_nest_49 : decode cX11_nest 49 = .ok (.ireturn, 1) := by decide +kernel
theorem dX11_nest_50 : decode cX11_nest 50 = .ok (.aload_n 0, 1) := by decide +kernel
theorem dX11_nest_51 : decode cX11_nest 51 = .ok (.iload_n 2, 1) := by decide +kernel
theorem dX11_nest_52 : decode cX11_nest 52 = .ok (.invokevirtual 237, 3) := by decide +kernel
theorem dX11_nest_55 : decode cX11_nest 55 = .ok (.istore 7, 2) := by decide +kernel
theorem dX11_nest_57 : decode cX11_nest 57 = .ok (.iload 7, 2) := by decide +kernel
theorem dX11_nest_59 : decode cX11_nest 59 = .ok (.ifCond .ge 6, 3) := by decide +kernel
theorem dX11_nest_62 : decode cX11_nest 62 = .ok (.iload 7, 2) := by decide +kernel
theorem dX11_nest_64 : decode cX11_nest 64 = .ok (.ireturn, 1) := by decide +kernel
theorem dX11_nest_65 : decode cX11_nest 65 = .ok (.iload_n 3, 1) := by decide +kernel
theorem dX11_nest_66 : decode cX11_nest 66 = .ok (.aload_n 0, 1) := by decide +kernel
theorem dX11_nest_67 : decode cX11_nest 67 = .ok (.getfield 41, 3) := by decide +kernel
theorem dX11_nest_70 : decode cX11_nest 70 = .ok (.iload_n 2, 1) := by decide +kernel
theorem dX11_nest_71 : decode cX11_nest 71 = .ok (.iaload, 1) := by decide +kernel
theorem dX11_nest_72 : decode cX11_nest 72 = .ok (.iload 5, 2) := by decide +kernel
theorem dX11_nest_74 : decode cX11_nest 74 = .ok (.isub, 1) := by decide +kernel
theorem dX11_nest_75 : decode cX11_nest 75 = .ok (.if_icmp .gt 17, 3) := by decide +kernel
theorem dX11_nest_78 : decode cX11_nest 78 = .ok (.iload 4, 2) := by decide +kernel
theorem dX11_nest_80 : decode cX11_nest 80 = .ok (.aload_n 0, 1) := by decide +kernel
theorem dX11_nest_81 : decode cX11_nest 81 = .ok (.getfield 44, 3) := by decide +kernel
theorem dX11_nest_84 : decode cX11_nest 84 = .ok (.iload_n 2, 1) := by decide +kernel
theorem dX11_nest_85 : decode cX11_nest 85 = .ok (.iaload, 1) := by decide +kernel
theorem dX11_nest_86 : decode cX11_nest 86 = .ok (.iload 6, 2) := by decide +kernel
theorem dX11_nest_88 : decode cX11_nest 88 = .ok (.isub, 1) := by decide +kernel
theorem dX11_nest_89 : decode cX11_nest 89 = .ok (.if_icmp .le 5, 3) := by decide +kernel
theorem dX11_nest_92 : decode cX11_nest 92 = .ok (.iconst (-1), 1) := by decide +kernel
theorem dX11_nest_93 : decode cX11_nest 93 = .ok (.ireturn, 1) := by decide +kernel
theorem dX11_nest_94 : decode cX11_nest 94 = .ok (.aload_n 0, 1) := by decide +kernel
theorem dX11_nest_95 : decode cX11_nest 95 = .ok (.iload_n 2, 1) := by decide +kernel
theorem dX11_nest_96 : decode cX11_nest 96 = .ok (.iload_n 1, 1) := by decide +kernel
theorem dX11_nest_97 : decode cX11_nest 97 = .ok (.invokevirtual 296, 3) := by decide +kernel
theorem dX11_nest_100 : decode cX11_nest 100 = .ok (.ifCond .eq 6, 3) := by decide +kernel
theorem dX11_nest_103 : decode cX11_nest 103 = .ok (.bipush (-4), 2) := by decide +kernel
theorem dX11_nest_105 : decode cX11_nest 105 = .ok (.ireturn, 1) := by decide +kernel
theorem dX11_nest_106 : decode cX11_nest 106 = .ok (.aload_n 0, 1) := by decide +kernel
theorem dX11_nest_107 : decode cX11_nest 107 = .ok (.iload_n 1, 1) := by decide +kernel
theorem dX11_nest_108 : decode cX11_nest 108 = .ok (.invokevirtual 229, 3) := by decide +kernel
theorem dX11_nest_111 : decode cX11_nest 111 = .ok (.aload_n 0, 1) := by decide +kernel
theorem dX11_nest_112 : decode cX11_nest 112 = .ok (.iload_n 1, 1) := by decide +kernel
theorem dX11_nest_113 : decode cX11_nest 113 = .ok (.iconst 2, 1) := by decide +kernel
theorem dX11_nest_114 : decode cX11_nest 114 = .ok (.iconst 2, 1) := by decide +kernel
theorem dX11_nest_115 : decode cX11_nest 115 = .ok (.iload 5, 2) := by decide +kernel
theorem dX11_nest_117 : decode cX11_nest 117 = .ok (.imul, 1) := by decide +kernel
theorem dX11_nest_118 : decode cX11_nest 118 = .ok (.iconst 2, 1) := by decide +kernel
theorem dX11_nest_119 : decode cX11_nest 119 = .ok (.iload 6, 2) := by decide +kernel
theorem dX11_nest_121 : decode cX11_nest 121 = .ok (.imul, 1) := by decide +kernel
theorem dX11_nest_122 : decode cX11_nest 122 = .ok (.invokevirtual 233, 3) := by decide +kernel
theorem dX11_nest_125 : decode cX11_nest 125 = .ok (.aload_n 0, 1) := by decide +kernel
theorem dX11_nest_126 : decode cX11_nest 126 = .ok (.getfield 105, 3) := by decide +kernel
theorem dX11_nest_129 : decode cX11_nest 129 = .ok (.iload_n 1, 1) := by decide +kernel
theorem dX11_nest_130 : decode cX11_nest 130 = .ok (.iload_n 2, 1) := by decide +kernel
theorem dX11_nest_131 : decode cX11_nest 131 = .ok (.iastore, 1) := by decide +kernel
theorem dX11_nest_132 : decode cX11_nest 132 = .ok (.aload_n 0, 1) := by decide +kernel
theorem dX11_nest_133 : decode cX11_nest 133 = .ok (.getfield 108, 3) := by decide +kernel
theorem dX11_nest_136 : decode cX11_nest 136 = .ok (.iload_n 1, 1) := by decide +kernel
theorem dX11_nest_137 : decode cX11_nest 137 = .ok (.iload_n 3, 1) := by decide +kernel
theorem dX11_nest_138 : decode cX11_nest 138 = .ok (.iastore, 1) := by decide +kernel
theorem dX11_nest_139 : decode cX11_nest 139 = .ok (.aload_n 0, 1) := by decide +kernel
theorem dX11_nest_140 : decode cX11_nest 140 = .ok (.getfield 111, 3) := by decide +kernel
theorem dX11_nest_143 : decode cX11_nest 143 = .ok (.iload_n 1, 1) := by decide +kernel
theorem dX11_nest_144 : decode cX11_nest 144 = .ok (.iload 4, 2) := by decide +kernel
theorem dX11_nest_146 : decode cX11_nest 146 = .ok (.iastore, 1) := by decide +kernel
theorem dX11_nest_147 : decode cX11_nest 147 = .ok (.iconst 0, 1) := by decide +kernel
theorem dX11_nest_148 : decode cX11_nest 148 = .ok (.istore 8, 2) := by decide +kernel
theorem dX11_nest_150 : decode cX11_nest 150 = .ok (.iload 8, 2) := by decide +kernel
theorem dX11_nest_152 : decode cX11_nest 152 = .ok (.iload 5, 2) := by decide +kernel
theorem dX11_nest_154 : decode cX11_nest 154 = .ok (.iload 6, 2) := by decide +kernel
theorem dX11_nest_156 : decode cX11_nest 156 = .ok (.imul, 1) := by decide +kernel
theorem dX11_nest_157 : decode cX11_nest 157 = .ok (.if_icmp .ge 109, 3) := by decide +kernel
theorem dX11_nest_160 : decode cX11_nest 160 = .ok (.bipush 48, 2) := by decide +kernel
theorem dX11_nest_162 : decode cX11_nest 162 = .ok (.iload_n 2, 1) := by decide +kernel
theorem dX11_nest_163 : decode cX11_nest 163 = .ok (.imul, 1) := by decide +kernel
theorem dX11_nest_164 : decode cX11_nest 164 = .ok (.aload_n 0, 1) := by decide +kernel
theorem dX11_nest_165 : decode cX11_nest 165 = .ok (.iload_n 1, 1) := by decide +kernel
theorem dX11_nest_166 : decode cX11_nest 166 = .ok (.iload 8, 2) := by decide +kernel
theorem dX11_nest_168 : decode cX11_nest 168 = .ok (.invokevirtual 337, 3) := by decide +kernel
theorem dX11_nest_171 : decode cX11_nest 171 = .ok (.iadd, 1) := by decide +kernel
theorem dX11_nest_172 : decode cX11_nest 172 = .ok (.istore 9, 2) := by decide +kernel
theorem dX11_nest_174 : decode cX11_nest 174 = .ok (.aload_n 0, 1) := by decide +kernel
theorem dX11_nest_175 : decode cX11_nest 175 = .ok (.getfield 114, 3) := by decide +kernel
theorem dX11_nest_178 : decode cX11_nest 178 = .ok (.bipush 48, 2) := by decide +kernel
theorem dX11_nest_180 : decode cX11_nest 180 = .ok (.iload_n 1, 1) := by decide +kernel
theorem dX11_nest_181 : decode cX11_nest 181 = .ok (.imul, 1) := by decide +kernel
theorem dX11_nest_182 : decode cX11_nest 182 = .ok (.iload 8, 2) := by decide +kernel
theorem dX11_nest_184 : decode cX11_nest 184 = .ok (.iadd, 1) := by decide +kernel
theorem dX11_nest_185 : decode cX11_nest 185 = .ok (.aload_n 0, 1) := by decide +kernel
theorem dX11_nest_186 : decode cX11_nest 186 = .ok (.getfield 92, 3) := by decide +kernel
theorem dX11_nest_189 : decode cX11_nest 189 = .ok (.iload 9, 2) := by decide +kernel
theorem dX11_nest_191 : decode cX11_nest 191 = .ok (.iaload, 1) := by decide +kernel
theorem dX11_nest_192 : decode cX11_nest 192 = .ok (.iastore, 1) := by decide +kernel
theorem dX11_nest_193 : decode cX11_nest 193 = .ok (.iconst 0, 1) := by decide +kernel
theorem dX11_nest_194 : decode cX11_nest 194 = .ok (.istore 10, 2) := by decide +kernel
theorem dX11_nest_196 : decode cX11_nest 196 = .ok (.iload 10, 2) := by decide +kernel
theorem dX11_nest_198 : decode cX11_nest 198 = .ok (.iconst 4, 1) := by decide +kernel
theorem dX11_nest_199 : decode cX11_nest 199 = .ok (.if_icmp .ge 61, 3) := by decide +kernel
theorem dX11_nest_202 : decode cX11_nest 202 = .ok (.aload_n 0, 1) := by decide +kernel
theorem dX11_nest_203 : decode cX11_nest 203 = .ok (.getfield 89, 3) := by decide +kernel
theorem dX11_nest_206 : decode cX11_nest 206 = .ok (.bipush 48, 2) := by decide +kernel
theorem dX11_nest_208 : decode cX11_nest 208 = .ok (.iload_n 1, 1) := by decide +kernel
theorem dX11_nest_209 : decode cX11_nest 209 = .ok (.imul, 1) := by decide +kernel
theorem dX11_nest_210 : decode cX11_nest 210 = .ok (.aload_n 0, 1) := by decide +kernel
theorem dX11_nest_211 : decode cX11_nest 211 = .ok (.iload_n 1, 1) := by decide +kernel
theorem dX11_nest_212 : decode cX11_nest 212 = .ok (.iload 8, 2) := by decide +kernel
theorem dX11_nest_214 : decode cX11_nest 214 = .ok (.iload 10, 2) := by decide +kernel
theorem dX11_nest_216 : decode cX11_nest 216 = .ok (.invokevirtual 340, 3) := by decide +kernel
theorem dX11_nest_219 : decode cX11_nest 219 = .ok (.iadd, 1) := by decide +kernel
theorem dX11_nest_220 : decode cX11_nest 220 = .ok (.aload_n 0, 1) := by decide +kernel
theorem dX11_nest_221 : decode cX11_nest 221 = .ok (.getfield 89, 3) := by decide +kernel
theorem dX11_nest_224 : decode cX11_nest 224 = .ok (.iload 9, 2) := by decide +kernel
theorem dX11_nest_226 : decode cX11_nest 226 = .ok (.iaload, 1) := by decide +kernel
theorem dX11_nest_227 : decode cX11_nest 227 = .ok (.iastore, 1) := by decide +kernel
theorem dX11_nest_228 : decode cX11_nest 228 = .ok (.aload_n 0, 1) := by decide +kernel
theorem dX11_nest_229 : decode cX11_nest 229 = .ok (.getfield 92, 3) := by decide +kernel
theorem dX11_nest_232 : decode cX11_nest 232 = .ok (.bipush 48, 2) := by decide +kernel
theorem dX11_nest_234 : decode cX11_nest 234 = .ok (.iload_n 1, 1) := by decide +kernel
theorem dX11_nest_235 : decode cX11_nest 235 = .ok (.imul, 1) := by decide +kernel
theorem dX11_nest_236 : decode cX11_nest 236 = .ok (.aload_n 0, 1) := by decide +kernel
theorem dX11_nest_237 : decode cX11_nest 237 = .ok (.iload_n 1, 1) := by decide +kernel
theorem dX11_nest_238 : decode cX11_nest 238 = .ok (.iload 8, 2) := by decide +kernel
theorem dX11_nest_240 : decode cX11_nest 240 = .ok (.iload 10, 2) := by decide +kernel
theorem dX11_nest_242 : decode cX11_nest 242 = .ok (.invokevirtual 340, 3) := by decide +kernel
theorem dX11_nest_245 : decode cX11_nest 245 = .ok (.iadd, 1) := by decide +kernel
theorem dX11_nest_246 : decode cX11_nest 246 = .ok (.aload_n 0, 1) := by decide +kernel
theorem dX11_nest_247 : decode cX11_nest 247 = .ok (.getfield 92, 3) := by decide +kernel
theorem dX11_nest_250 : decode cX11_nest 250 = .ok (.iload 9, 2) := by decide +kernel
theorem dX11_nest_252 : decode cX11_nest 252 = .ok (.iaload, 1) := by decide +kernel
theorem dX11_nest_253 : decode cX11_nest 253 = .ok (.iastore, 1) := by decide +kernel
theorem dX11_nest_254 : decode cX11_nest 254 = .ok (.iinc 10 1, 3) := by decide +kernel
theorem dX11_nest_257 : decode cX11_nest 257 = .ok (.goto (-61), 3) := by decide +kernel
theorem dX11_nest_260 : decode cX11_nest 260 = .ok (.iinc 8 1, 3) := by decide +kernel
theorem dX11_nest_263 : decode cX11_nest 263 = .ok (.goto (-113), 3) := by decide +kernel
theorem dX11_nest_266 : decode cX11_nest 266 = .ok (.iconst 4, 1) := by decide +kernel
theorem dX11_nest_267 : decode cX11_nest 267 = .ok (.iload 5, 2) := by decide +kernel
theorem dX11_nest_269 : decode cX11_nest 269 = .ok (.imul, 1) := by decide +kernel
theorem dX11_nest_270 : decode cX11_nest 270 = .ok (.iload 6, 2) := by decide +kernel
theorem dX11_nest_272 : decode cX11_nest 272 = .ok (.imul, 1) := by decide +kernel
theorem dX11_nest_273 : decode cX11_nest 273 = .ok (.ireturn, 1) := by decide +kernel
theorem dX11_beneath_0 : decode cX11_beneath 0 = .ok (.aload_n 0, 1) := by decide +kernel
theorem dX11_beneath_1 : decode cX11_beneath 1 = .ok (.getfield 41, 3) := by decide +kernel
theorem dX11_beneath_4 : decode cX11_beneath 4 = .ok (.iload_n 1, 1) := by decide +kernel
theorem dX11_beneath_5 : decode cX11_beneath 5 = .ok (.iaload, 1) := by decide +kernel
theorem dX11_beneath_6 : decode cX11_beneath 6 = .ok (.iconst 2, 1) := by decide +kernel
theorem dX11_beneath_7 : decode cX11_beneath 7 = .ok (.idiv, 1) := by decide +kernel
theorem dX11_beneath_8 : decode cX11_beneath 8 = .ok (.istore_n 3, 1) := by decide +kernel
theorem dX11_beneath_9 : decode cX11_beneath 9 = .ok (.aload_n 0, 1) := by decide +kernel
theorem dX11_beneath_10 : decode cX11_beneath 10 = .ok (.getfield 111, 3) := by decide +kernel
theorem dX11_beneath_13 : decode cX11_beneath 13 = .ok (.iload_n 1, 1) := by decide +kernel
theorem dX11_beneath_14 : decode cX11_beneath 14 = .ok (.iaload, 1) := by decide +kernel
theorem dX11_beneath_15 : decode cX11_beneath 15 = .ok (.iload_n 2, 1) := by decide +kernel
theorem dX11_beneath_16 : decode cX11_beneath 16 = .ok (.iload_n 3, 1) := by decide +kernel
theorem dX11_beneath_17 : decode cX11_beneath 17 = .ok (.idiv, 1) := by decide +kernel
theorem dX11_beneath_18 : decode cX11_beneath 18 = .ok (.iadd, 1) := by decide +kernel
theorem dX11_beneath_19 : decode cX11_beneath 19 = .ok (.aload_n 0, 1) := by decide +kernel
theorem dX11_beneath_20 : decode cX11_beneath 20 = .ok (.getfield 41, 3) := by decide +kernel
theorem dX11_beneath_23 : decode cX11_beneath 23 = .ok (.aload_n 0, 1) := by decide +kernel
theorem dX11_beneath_24 : decode cX11_beneath 24 = .ok (.getfield 105, 3) := by decide +kernel
theorem dX11_beneath_27 : decode cX11_beneath 27 = .ok (.iload_n 1, 1) := by decide +kernel
theorem dX11_beneath_28 : decode cX11_beneath 28 = .ok (.iaload, 1) := by decide +kernel
theorem dX11_beneath_29 : decode cX11_beneath 29 = .ok (.iaload, 1) := by decide +kernel
theorem dX11_beneath_30 : decode cX11_beneath 30 = .ok (.imul, 1) := by decide +kernel
theorem dX11_beneath_31 : decode cX11_beneath 31 = .ok (.aload_n 0, 1) := by decide +kernel
theorem dX11_beneath_32 : decode cX11_beneath 32 = .ok (.getfield 108, 3) := by decide +kernel
theorem dX11_beneath_35 : decode cX11_beneath 35 = .ok (.iload_n 1, 1) := by decide +kernel
theorem dX11_beneath_36 : decode cX11_beneath 36 = .ok (.iaload, 1) := by decide +kernel
theorem dX11_beneath_37 : decode cX11_beneath 37 = .ok (.iadd, 1) := by decide +kernel
theorem dX11_beneath_38 : decode cX11_beneath 38 = .ok (.iload_n 2, 1) := by decide +kernel
theorem dX11_beneath_39 : decode cX11_beneath 39 = .ok (.iload_n 3, 1) := by decide +kernel
theorem dX11_beneath_40 : decode cX11_beneath 40 = .ok (.irem, 1) := by decide +kernel
theorem dX11_beneath_41 : decode cX11_beneath 41 = .ok (.iadd, 1) := by decide +kernel
theorem dX11_beneath_42 : decode cX11_beneath 42 = .ok (.ireturn, 1) := by decide +kernel
theorem dX11_fine_0 : decode cX11_fine 0 = .ok (.aload_n 0, 1) := by decide +kernel
theorem dX11_fine_1 : decode cX11_fine 1 = .ok (.getfield 41, 3) := by decide +kernel
theorem dX11_fine_4 : decode cX11_fine 4 = .ok (.iload_n 1, 1) := by decide +kernel
theorem dX11_fine_5 : decode cX11_fine 5 = .ok (.iaload, 1) := by decide +kernel
theorem dX11_fine_6 : decode cX11_fine 6 = .ok (.iconst 2, 1) := by decide +kernel
theorem dX11_fine_7 : decode cX11_fine 7 = .ok (.idiv, 1) := by decide +kernel
theorem dX11_fine_8 : decode cX11_fine 8 = .ok (.istore 4, 2) := by decide +kernel
theorem dX11_fine_10 : decode cX11_fine 10 = .ok (.iconst 2, 1) := by decide +kernel
theorem dX11_fine_11 : decode cX11_fine 11 = .ok (.iload_n 2, 1) := by decide +kernel
theorem dX11_fine_12 : decode cX11_fine 12 = .ok (.iload 4, 2) := by decide +kernel
theorem dX11_fine_14 : decode cX11_fine 14 = .ok (.idiv, 1) := by decide +kernel
theorem dX11_fine_15 : decode cX11_fine 15 = .ok (.imul, 1) := by decide +kernel
theorem dX11_fine_16 : decode cX11_fine 16 = .ok (.iload_n 3, 1) := by decide +kernel
theorem dX11_fine_17 : decode cX11_fine 17 = .ok (.iconst 2, 1) := by decide +kernel
theorem dX11_fine_18 : decode cX11_fine 18 = .ok (.idiv, 1) := by decide +kernel
theorem dX11_fine_19 : decode cX11_fine 19 = .ok (.iadd, 1) := by decide +kernel
theorem dX11_fine_20 : decode cX11_fine 20 = .ok (.aload_n 0, 1) := by decide +kernel
theorem dX11_fine_21 : decode cX11_fine 21 = .ok (.getfield 41, 3) := by decide +kernel
theorem dX11_fine_24 : decode cX11_fine 24 = .ok (.iload_n 1, 1) := by decide +kernel
theorem dX11_fine_25 : decode cX11_fine 25 = .ok (.iaload, 1) := by decide +kernel
theorem dX11_fine_26 : decode cX11_fine 26 = .ok (.imul, 1) := by decide +kernel
theorem dX11_fine_27 : decode cX11_fine 27 = .ok (.iconst 2, 1) := by decide +kernel
theorem dX11_fine_28 : decode cX11_fine 28 = .ok (.iload_n 2, 1) := by decide +kernel
theorem dX11_fine_29 : decode cX11_fine 29 = .ok (.iload 4, 2) := by decide +kernel
theorem dX11_fine_31 : decode cX11_fine 31 = .ok (.irem, 1) := by decide +kernel
theorem dX11_fine_32 : decode cX11_fine 32 = .ok (.imul, 1) := by decide +kernel
theorem dX11_fine_33 : decode cX11_fine 33 = .ok (.iadd, 1) := by decide +kernel
theorem dX11_fine_34 : decode cX11_fine 34 = .ok (.iload_n 3, 1) := by decide +kernel
theorem dX11_fine_35 : decode cX11_fine 35 = .ok (.iconst 2, 1) := by decide +kernel
theorem dX11_fine_36 : decode cX11_fine 36 = .ok (.irem, 1) := by decide +kernel
theorem dX11_fine_37 : decode cX11_fine 37 = .ok (.iadd, 1) := by decide +kernel
theorem dX11_fine_38 : decode cX11_fine 38 = .ok (.ireturn, 1) := by decide +kernel
set_option maxRecDepth 20000 in
theorem ggX11_askedNest_X11_askedFor : GoodIn wsX11_askedNest wsX11_askedFor := goodIn_r _ [6, 1, 7, 8, 5, 9, 10, 11, 12, 13, 14, 15, 16, 17, 18, 19, 20, 21, 22, 23, 24, 25, 26, 27, 28, 29, 30, 31, 32, 33, 34, 35, 36, 37, 38, 39, 40, 41, 42, 43, 44, 45, 46, 47, 48, 49, 50, 51, 52, 53, 54, 55, 56, 57, 58, 59, 60, 61, 62, 63, 64, 65, 66, 67, 68, 69, 70, 71, 72, 73, 74, 75, 76, 77, 78, 79, 80, 81, 82, 83, 84] (by decide +kernel) (by decide +kernel)
set_option maxRecDepth 20000 in
theorem gX11_askedNest_X11_askedFor : GoodIn wsX11_askedNest (wsV RX11 237 RX11 yX11_askedFor wsX11_askedFor) := goodIn_app (goodIn_of _ (by decide +kernel)) ggX11_askedNest_X11_askedFor
set_option maxRecDepth 20000 in
theorem ggX11_askedNest_X11_meets : GoodIn wsX11_askedNest wsX11_meets := goodIn_r _ [16, 17, 18, 19, 20, 21, 22, 23, 24, 25, 26, 27, 28, 29, 30, 31, 32, 33, 34, 35, 36, 37, 38, 39, 40, 41, 42, 43, 44, 45, 46, 47, 48, 49, 50, 51, 52, 53, 54, 55, 56, 57, 58, 59, 60, 61, 62, 63, 64, 65, 66, 67, 68, 69, 70, 71, 72, 73, 74, 75, 76, 77, 78, 79, 80, 81, 82, 83, 84] (by decide +kernel) (by decide +kernel)
set_option maxRecDepth 20000 in
theorem gX11_askedNest_X11_meets : GoodIn wsX11_askedNest (wsV RX11 190 RX11 yX11_meets wsX11_meets) := goodIn_app (goodIn_of _ (by decide +kernel)) ggX11_askedNest_X11_meets
theorem dX11_askedNest_0 : decode cX11_askedNest 0 = .ok (.aload_n 0, 1) := by decide +kernel
theorem dX11_askedNest_1 : decode cX11_askedNest 1 = .ok (.iload_n 1, 1) := by decide +kernel
theorem dX11_askedNest_2 : decode cX11_askedNest 2 = .ok (.invokevirtual 237, 3) := by decide +kernel
theorem dX11_askedNest_5 : decode cX11_askedNest 5 = .ok (.istore_n 2, 1) := by decide +kernel
theorem dX11_askedNest_6 : decode cX11_askedNest 6 = .ok (.iload_n 2, 1) := by decide +kernel
theorem dX11_askedNest_7 : decode cX11_askedNest 7 = .ok (.ifCond .ge 7, 3) := by decide +kernel
theorem dX11_askedNest_10 : decode cX11_askedNest 10 = .ok (.iload_n 2, 1) := by decide +kernel
theorem dX11_askedNest_11 : decode cX11_askedNest 11 = .ok (.goto 22, 3) := by decide +kernel
theorem dX11_askedNest_14 : decode cX11_askedNest 14 = .ok (.aload_n 0, 1) := by decide +kernel
theorem dX11_askedNest_15 : decode cX11_askedNest 15 = .ok (.getfield 38, 3) := by decide +kernel
theorem dX11_askedNest_18 : decode cX11_askedNest 18 = .ok (.iload_n 1, 1) := by decide +kernel
theorem dX11_askedNest_19 : decode cX11_askedNest 19 = .ok (.iaload, 1) := by decide +kernel
theorem dX11_askedNest_20 : decode cX11_askedNest 20 = .ok (.iconst 2, 1) := by decide +kernel
theorem dX11_askedNest_21 : decode cX11_askedNest 21 = .ok (.if_icmp .ne 7, 3) := by decide +kernel
theorem dX11_askedNest_24 : decode cX11_askedNest 24 = .ok (.iconst 0, 1) := by decide +kernel
theorem dX11_askedNest_25 : decode cX11_askedNest 25 = .ok (.goto 8, 3) := by decide +kernel
theorem dX11_askedNest_28 : decode cX11_askedNest 28 = .ok (.aload_n 0, 1) := by decide +kernel
theorem dX11_askedNest_29 : decode cX11_askedNest 29 = .ok (.iconst 3, 1) := by decide +kernel
theorem dX11_askedNest_30 : decode cX11_askedNest 30 = .ok (.invokevirtual 190, 3) := by decide +kernel
theorem dX11_askedNest_33 : decode cX11_askedNest 33 = .ok (.ireturn, 1) := by decide +kernel
set_option maxRecDepth 20000 in
theorem ggX11_up_X11_askedNest : GoodIn wsX11_up wsX11_askedNest := goodIn_r _ [10, 11, 12, 13, 14, 9, 15, 16, 17, 18, 19, 20, 21, 22, 23, 24, 25, 26, 27, 49, 50, 51, 52, 53, 54, 55, 56, 57, 58, 59, 60, 61, 62, 63, 64, 65, 66, 67, 68, 69, 70, 71, 72, 73, 74, 75, 76, 77, 78, 79, 80, 81, 82, 83, 84, 85, 86, 87, 88, 89, 90, 91, 92, 93, 94, 95, 96, 97, 98, 99, 100, 101, 102, 103, 104, 105, 106, 107, 108, 109, 110, 111, 112, 113, 114] (by decide +kernel) (by decide +kernel)
set_option maxRecDepth 20000 in
theorem gX11_up_X11_askedNest : GoodIn wsX11_up (wsV RX11 343 RX11 yX11_askedNest wsX11_askedNest) := goodIn_app (goodIn_of _ (by decide +kernel)) ggX11_up_X11_askedNest
set_option maxRecDepth 20000 in
theorem ggX11_up_X11_cells : GoodIn wsX11_up wsX11_cells := goodIn_r _ [31, 32, 33, 49, 50, 51, 52, 53, 54, 55, 56, 57, 58, 59, 60, 61, 62, 63, 64, 65, 66, 67, 68, 69, 70, 71, 72, 73, 74, 75, 76, 77, 78, 79, 80, 81, 82, 83, 84, 85, 86, 87, 88, 89, 90, 91, 92, 93, 94, 95, 96, 97, 98, 99, 100, 101, 102, 103, 104, 105, 106, 107, 108, 109, 110, 111, 112, 113, 114] (by decide +kernel) (by decide +kernel)
set_option maxRecDepth 20000 in
theorem gX11_up_X11_cells : GoodIn wsX11_up (wsV RX11 223 RX11 yX11_cells wsX11_cells) := goodIn_app (goodIn_of _ (by decide +kernel)) ggX11_up_X11_cells
set_option maxRecDepth 20000 in
theorem ggX11_up_X11_fine : GoodIn wsX11_up wsX11_fine := goodIn_r _ [37, 32, 49, 50, 51, 52, 53, 54, 55, 56, 57, 58, 59, 60, 61, 62, 63, 64, 65, 66, 67, 68, 69, 70, 71, 72, 73, 74, 75, 76, 77, 78, 79, 80, 81, 82, 83, 84, 85, 86, 87, 88, 89, 90, 91, 92, 93, 94, 95, 96, 97, 98, 99, 100, 101, 102, 103, 104, 105, 106, 107, 108, 109, 110, 111, 112, 113, 114] (by decide +kernel) (by decide +kernel)
set_option maxRecDepth 20000 in
theorem gX11_up_X11_fine : GoodIn wsX11_up (wsV RX11 340 RX11 yX11_fine wsX11_fine) := goodIn_app (goodIn_of _ (by decide +kernel)) ggX11_up_X11_fine
set_option maxRecDepth 20000 in
theorem ggX11_up_X11_beneath : GoodIn wsX11_up wsX11_beneath := goodIn_r _ [41, 32, 42, 4, 43, 49, 50, 51, 52, 53, 54, 55, 56, 57, 58, 59, 60, 61, 62, 63, 64, 65, 66, 67, 68, 69, 70, 71, 72, 73, 74, 75, 76, 77, 78, 79, 80, 81, 82, 83, 84, 85, 86, 87, 88, 89, 90, 91, 92, 93, 94, 95, 96, 97, 98, 99, 100, 101, 102, 103, 104, 105, 106, 107, 108, 109, 110, 111, 112, 113, 114] (by decide +kernel) (by decide +kernel)
set_option maxRecDepth 20000 in
theorem gX11_up_X11_beneath : GoodIn wsX11_up (wsV RX11 337 RX11 yX11_beneath wsX11_beneath) := goodIn_app (goodIn_of _ (by decide +kernel)) ggX11_up_X11_beneath
set_option maxRecDepth 20000 in
theorem ggX11_up_X11_ask : GoodIn wsX11_up wsX11_ask := goodIn_r _ [47, 48, 49, 50, 51, 52, 53, 54, 55, 56, 57, 58, 59, 60, 61, 62, 63, 64, 65, 66, 67, 68, 69, 70, 71, 72, 73, 74, 75, 76, 77, 78, 79, 80, 81, 82, 83, 84, 85, 86, 87, 88, 89, 90, 91, 92, 93, 94, 95, 96, 97, 98, 99, 100, 101, 102, 103, 104, 105, 106, 107, 108, 109, 110, 111, 112, 113, 114] (by decide +kernel) (by decide +kernel)
set_option maxRecDepth 20000 in
theorem gX11_up_X11_ask : GoodIn wsX11_up (wsV RX11 202 RX11 yX11_ask wsX11_ask) := goodIn_app (goodIn_of _ (by decide +kernel)) ggX11_up_X11_ask
theorem dX11_up_0 : decode cX11_up 0 = .ok (.aload_n 0, 1) := by decide +kernel
theorem dX11_up_1 : decode cX11_up 1 = .ok (.iload_n 1, 1) := by decide +kernel
theorem dX11_up_2 : decode cX11_up 2 = .ok (.invokevirtual 343, 3) := by decide +kernel
theorem dX11_up_5 : decode cX11_up 5 = .ok (.istore_n 2, 1) := by decide +kernel
theorem dX11_up_6 : decode cX11_up 6 = .ok (.iload_n 2, 1) := by decide +kernel
theorem dX11_up_7 : decode cX11_up 7 = .ok (.ifCond .ge 5, 3) := by decide +kernel
theorem dX11_up_10 : decode cX11_up 10 = .ok (.iload_n 2, 1) := by decide +kernel
theorem dX11_up_11 : decode cX11_up 11 = .ok (.ireturn, 1) := by decide +kernel
theorem dX11_up_12 : decode cX11_up 12 = .ok (.iconst 0, 1) := by decide +kernel
theorem dX11_up_13 : decode cX11_up 13 = .ok (.istore_n 3, 1) := by decide +kernel
theorem dX11_up_14 : decode cX11_up 14 = .ok (.iconst 0, 1) := by decide +kernel
theorem dX11_up_15 : decode cX11_up 15 = .ok (.istore 4, 2) := by decide +kernel
theorem dX11_up_17 : decode cX11_up 17 = .ok (.iload 4, 2) := by decide +kernel
theorem dX11_up_19 : decode cX11_up 19 = .ok (.aload_n 0, 1) := by decide +kernel
theorem dX11_up_20 : decode cX11_up 20 = .ok (.iload_n 1, 1) := by decide +kernel
theorem dX11_up_21 : decode cX11_up 21 = .ok (.invokevirtual 223, 3) := by decide +kernel
theorem dX11_up_24 : decode cX11_up 24 = .ok (.iconst 4, 1) := by decide +kernel
theorem dX11_up_25 : decode cX11_up 25 = .ok (.idiv, 1) := by decide +kernel
theorem dX11_up_26 : decode cX11_up 26 = .ok (.if_icmp .ge 165, 3) := by decide +kernel
theorem dX11_up_29 : decode cX11_up 29 = .ok (.aload_n 0, 1) := by decide +kernel
theorem dX11_up_30 : decode cX11_up 30 = .ok (.getfield 117, 3) := by decide +kernel
theorem dX11_up_33 : decode cX11_up 33 = .ok (.bipush 48, 2) := by decide +kernel
theorem dX11_up_35 : decode cX11_up 35 = .ok (.iload_n 1, 1) := by decide +kernel
theorem dX11_up_36 : decode cX11_up 36 = .ok (.imul, 1) := by decide +kernel
theorem dX11_up_37 : decode cX11_up 37 = .ok (.iload 4, 2) := by decide +kernel
theorem dX11_up_39 : decode cX11_up 39 = .ok (.iadd, 1) := by decide +kernel
theorem dX11_up_40 : decode cX11_up 40 = .ok (.iaload, 1) := by decide +kernel
theorem dX11_up_41 : decode cX11_up 41 = .ok (.istore 5, 2) := by decide +kernel
theorem dX11_up_43 : decode cX11_up 43 = .ok (.iconst 0, 1) := by decide +kernel
theorem dX11_up_44 : decode cX11_up 44 = .ok (.istore 6, 2) := by decide +kernel
theorem dX11_up_46 : decode cX11_up 46 = .ok (.iload 6, 2) := by decide +kernel
theorem dX11_up_48 : decode cX11_up 48 = .ok (.iconst 4, 1) := by decide +kernel
theorem dX11_up_49 : decode cX11_up 49 = .ok (.if_icmp .ge 33, 3) := by decide +kernel
theorem dX11_up_52 : decode cX11_up 52 = .ok (.iload 5, 2) := by decide +kernel
theorem dX11_up_54 : decode cX11_up 54 = .ok (.aload_n 0, 1) := by decide +kernel
theorem dX11_up_55 : decode cX11_up 55 = .ok (.getfield 92, 3) := by decide +kernel
theorem dX11_up_58 : decode cX11_up 58 = .ok (.bipush 48, 2) := by decide +kernel
theorem dX11_up_60 : decode cX11_up 60 = .ok (.iload_n 1, 1) := by decide +kernel
theorem dX11_up_61 : decode cX11_up 61 = .ok (.imul, 1) := by decide +kernel
theorem dX11_up_62 : decode cX11_up 62 = .ok (.aload_n 0, 1) := by decide +kernel
theorem dX11_up_63 : decode cX11_up 63 = .ok (.iload_n 1, 1) := by decide +kernel
theorem dX11_up_64 : decode cX11_up 64 = .ok (.iload 4, 2) := by decide +kernel
theorem dX11_up_66 : decode cX11_up 66 = .ok (.iload 6, 2) := by decide +kernel
theorem dX11_up_68 : decode cX11_up 68 = .ok (.invokevirtual 340, 3) := by decide +kernel
theorem dX11_up_71 : decode cX11_up 71 = .ok (.iadd, 1) := by decide +kernel
theorem dX11_up_72 : decode cX11_up 72 = .ok (.iaload, 1) := by decide +kernel
theorem dX11_up_73 : decode cX11_up 73 = .ok (.iadd, 1) := by decide +kernel
theorem dX11_up_74 : decode cX11_up 74 = .ok (.istore 5, 2) := by decide +kernel
theorem dX11_up_76 : decode cX11_up 76 = .ok (.iinc 6 1, 3) := by decide +kernel
theorem dX11_up_79 : decode cX11_up 79 = .ok (.goto (-33), 3) := by decide +kernel
theorem dX11_up_82 : decode cX11_up 82 = .ok (.iload 5, 2) := by decide +kernel
theorem dX11_up_84 : decode cX11_up 84 = .ok (.ifCond .ge 7, 3) := by decide +kernel
theorem dX11_up_87 : decode cX11_up 87 = .ok (.iconst 0, 1) := by decide +kernel
theorem dX11_up_88 : decode cX11_up 88 = .ok (.goto 21, 3) := by decide +kernel
theorem dX11_up_91 : decode cX11_up 91 = .ok (.iload 5, 2) := by decide +kernel
theorem dX11_up_93 : decode cX11_up 93 = .ok (.iconst 4, 1) := by decide +kernel
theorem dX11_up_94 : decode cX11_up 94 = .ok (.idiv, 1) := by decide +kernel
theorem dX11_up_95 : decode cX11_up 95 = .ok (.ldc 195, 2) := by decide +kernel
theorem dX11_up_97 : decode cX11_up 97 = .ok (.if_icmp .le 8, 3) := by decide +kernel
theorem dX11_up_100 : decode cX11_up 100 = .ok (.ldc 195, 2) := by decide +kernel
theorem dX11_up_102 : decode cX11_up 102 = .ok (.goto 7, 3) := by decide +kernel
theorem dX11_up_105 : decode cX11_up 105 = .ok (.iload 5, 2) := by decide +kernel
theorem dX11_up_107 : decode cX11_up 107 = .ok (.iconst 4, 1) := by decide +kernel
theorem dX11_up_108 : decode cX11_up 108 = .ok (.idiv, 1) := by decide +kernel
theorem dX11_up_109 : decode cX11_up 109 = .ok (.istore 6, 2) := by decide +kernel
theorem dX11_up_111 : decode cX11_up 111 = .ok (.bipush 48, 2) := by decide +kernel
theorem dX11_up_113 : decode cX11_up 113 = .ok (.aload_n 0, 1) := by decide +kernel
theorem dX11_up_114 : decode cX11_up 114 = .ok (.getfield 105, 3) := by decide +kernel
theorem dX11_up_117 : decode cX11_up 117 = .ok (.iload_n 1, 1) := by decide +kernel
theorem dX11_up_118 : decode cX11_up 118 = .ok (.iaload, 1) := by decide +kernel
theorem dX11_up_119 : decode cX11_up 119 = .ok (.imul, 1) := by decide +kernel
theorem dX11_up_120 : decode cX11_up 120 = .ok (.aload_n 0, 1) := by decide +kernel
theorem dX11_up_121 : decode cX11_up 121 = .ok (.iload_n 1, 1) := by decide +kernel
theorem dX11_up_122 : decode cX11_up 122 = .ok (.iload 4, 2) := by decide +kernel
theorem dX11_up_124 : decode cX11_up 124 = .ok (.invokevirtual 337, 3) := by decide +kernel
theorem dX11_up_127 : decode cX11_up 127 = .ok (.iadd, 1) := by decide +kernel
theorem dX11_up_128 : decode cX11_up 128 = .ok (.istore 7, 2) := by decide +kernel
theorem dX11_up_130 : decode cX11_up 130 = .ok (.iload_n 3, 1) := by decide +kernel
theorem dX11_up_131 : decode cX11_up 131 = .ok (.iload 6, 2) := by decide +kernel
theorem dX11_up_133 : decode cX11_up 133 = .ok (.aload_n 0, 1) := by decide +kernel
theorem dX11_up_134 : decode cX11_up 134 = .ok (.getfield 92, 3) := by decide +kernel
theorem dX11_up_137 : decode cX11_up 137 = .ok (.iload 7, 2) := by decide +kernel
theorem dX11_up_139 : decode cX11_up 139 = .ok (.iaload, 1) := by decide +kernel
theorem dX11_up_140 : decode cX11_up 140 = .ok (.isub, 1) := by decide +kernel
theorem dX11_up_141 : decode cX11_up 141 = .ok (.iadd, 1) := by decide +kernel
theorem dX11_up_142 : decode cX11_up 142 = .ok (.istore_n 3, 1) := by decide +kernel
theorem dX11_up_143 : decode cX11_up 143 = .ok (.aload_n 0, 1) := by decide +kernel
theorem dX11_up_144 : decode cX11_up 144 = .ok (.getfield 92, 3) := by decide +kernel
theorem dX11_up_147 : decode cX11_up 147 = .ok (.iload 7, 2) := by decide +kernel
theorem dX11_up_149 : decode cX11_up 149 = .ok (.iload 6, 2) := by decide +kernel
theorem dX11_up_151 : decode cX11_up 151 = .ok (.iastore, 1) := by decide +kernel
theorem dX11_up_152 : decode cX11_up 152 = .ok (.aload_n 0, 1) := by decide +kernel
theorem dX11_up_153 : decode cX11_up 153 = .ok (.getfield 117, 3) := by decide +kernel
theorem dX11_up_156 : decode cX11_up 156 = .ok (.bipush 48, 2) := by decide +kernel
theorem dX11_up_158 : decode cX11_up 158 = .ok (.iload_n 1, 1) := by decide +kernel
theorem dX11_up_159 : decode cX11_up 159 = .ok (.imul, 1) := by decide +kernel
theorem dX11_up_160 : decode cX11_up 160 = .ok (.iload 4, 2) := by decide +kernel
theorem dX11_up_162 : decode cX11_up 162 = .ok (.iadd, 1) := by decide +kernel
theorem dX11_up_163 : decode cX11_up 163 = .ok (.iload 5, 2) := by decide +kernel
theorem dX11_up_165 : decode cX11_up 165 = .ok (.iconst 4, 1) := by decide +kernel
theorem dX11_up_166 : decode cX11_up 166 = .ok (.iload 6, 2) := by decide +kernel
theorem dX11_up_168 : decode cX11_up 168 = .ok (.imul, 1) := by decide +kernel
theorem dX11_up_169 : decode cX11_up 169 = .ok (.isub, 1) := by decide +kernel
theorem dX11_up_170 : decode cX11_up 170 = .ok (.iastore, 1) := by decide +kernel
theorem dX11_up_171 : decode cX11_up 171 = .ok (.aload_n 0, 1) := by decide +kernel
theorem dX11_up_172 : decode cX11_up 172 = .ok (.getfield 114, 3) := by decide +kernel
theorem dX11_up_175 : decode cX11_up 175 = .ok (.bipush 48, 2) := by decide +kernel
theorem dX11_up_177 : decode cX11_up 177 = .ok (.iload_n 1, 1) := by decide +kernel
theorem dX11_up_178 : decode cX11_up 178 = .ok (.imul, 1) := by decide +kernel
theorem dX11_up_179 : decode cX11_up 179 = .ok (.iload 4, 2) := by decide +kernel
theorem dX11_up_181 : decode cX11_up 181 = .ok (.iadd, 1) := by decide +kernel
theorem dX11_up_182 : decode cX11_up 182 = .ok (.iload 6, 2) := by decide +kernel
theorem dX11_up_184 : decode cX11_up 184 = .ok (.iastore, 1) := by decide +kernel
theorem dX11_up_185 : decode cX11_up 185 = .ok (.iinc 4 1, 3) := by decide +kernel
theorem dX11_up_188 : decode cX11_up 188 = .ok (.goto (-171), 3) := by decide +kernel
theorem dX11_up_191 : decode cX11_up 191 = .ok (.aload_n 0, 1) := by decide +kernel
theorem dX11_up_192 : decode cX11_up 192 = .ok (.iload_n 3, 1) := by decide +kernel
theorem dX11_up_193 : decode cX11_up 193 = .ok (.iconst 1, 1) := by decide +kernel
theorem dX11_up_194 : decode cX11_up 194 = .ok (.invokevirtual 202, 3) := by decide +kernel
theorem dX11_up_197 : decode cX11_up 197 = .ok (.ireturn, 1) := by decide +kernel
set_option maxRecDepth 20000 in
theorem ggX11_down_X11_askedNest : GoodIn wsX11_down wsX11_askedNest := goodIn_r _ [11, 12, 13, 14, 15, 10, 16, 17, 18, 19, 20, 21, 22, 23, 24, 25, 26, 27, 28, 66, 67, 68, 69, 70, 71, 72, 73, 74, 75, 76, 77, 78, 79, 80, 81, 82, 83, 84, 85, 86, 87, 88, 89, 90, 91, 92, 93, 94, 95, 96, 97, 98, 99, 100, 101, 102, 103, 104, 105, 106, 107, 108, 109, 110, 111, 112, 113, 114, 115, 116, 117, 118, 119, 120, 121, 122, 123, 124, 125, 126, 127, 128, 129, 130, 131] (by decide +kernel) (by decide +kernel)
set_option maxRecDepth 20000 in
theorem gX11_down_X11_askedNest : GoodIn wsX11_down (wsV RX11 343 RX11 yX11_askedNest wsX11_askedNest) := goodIn_app (goodIn_of _ (by decide +kernel)) ggX11_down_X11_askedNest
set_option maxRecDepth 20000 in
theorem ggX11_down_X11_tells : GoodIn wsX11_down wsX11_tells := goodIn_r _ [32, 12, 33, 34, 35, 1, 36, 37, 38, 39, 40, 41, 10, 42, 43, 44, 45, 46, 47, 48, 49, 50, 66, 67, 68, 69, 70, 71, 72, 73, 74, 75, 76, 77, 78, 79, 80, 81, 82, 83, 84, 85, 86, 87, 88, 89, 90, 91, 92, 93, 94, 95, 96, 97, 98, 99, 100, 101, 102, 103, 104, 105, 106, 107, 108, 109, 110, 111, 112, 113, 114, 115, 116, 117, 118, 119, 120, 121, 122, 123, 124, 125, 126, 127, 128, 129, 130, 131] (by decide +kernel) (by decide +kernel)
set_option maxRecDepth 20000 in
theorem gX11_down_X11_tells : GoodIn wsX11_down (wsV RX11 293 RX11 yX11_tells wsX11_tells) := goodIn_app (goodIn_of _ (by decide +kernel)) ggX11_down_X11_tells
set_option maxRecDepth 20000 in
theorem ggX11_down_X11_cells : GoodIn wsX11_down wsX11_cells := goodIn_r _ [42, 33, 34, 66, 67, 68, 69, 70, 71, 72, 73, 74, 75, 76, 77, 78, 79, 80, 81, 82, 83, 84, 85, 86, 87, 88, 89, 90, 91, 92, 93, 94, 95, 96, 97, 98, 99, 100, 101, 102, 103, 104, 105, 106, 107, 108, 109, 110, 111, 112, 113, 114, 115, 116, 117, 118, 119, 120, 121, 122, 123, 124, 125, 126, 127, 128, 129, 130, 131] (by decide +kernel) (by decide +kernel)
set_option maxRecDepth 20000 in
theorem gX11_down_X11_cells : GoodIn wsX11_down (wsV RX11 223 RX11 yX11_cells wsX11_cells) := goodIn_app (goodIn_of _ (by decide +kernel)) ggX11_down_X11_cells
set_option maxRecDepth 20000 in
theorem ggX11_down_X11_beneath : GoodIn wsX11_down wsX11_beneath := goodIn_r _ [54, 33, 55, 2, 56, 66, 67, 68, 69, 70, 71, 72, 73, 74, 75, 76, 77, 78, 79, 80, 81, 82, 83, 84, 85, 86, 87, 88, 89, 90, 91, 92, 93, 94, 95, 96, 97, 98, 99, 100, 101, 102, 103, 104, 105, 106, 107, 108, 109, 110, 111, 112, 113, 114, 115, 116, 117, 118, 119, 120, 121, 122, 123, 124, 125, 126, 127, 128, 129, 130, 131] (by decide +kernel) (by decide +kernel)
set_option maxRecDepth 20000 in
theorem gX11_down_X11_beneath : GoodIn wsX11_down (wsV RX11 337 RX11 yX11_beneath wsX11_beneath) := goodIn_app (goodIn_of _ (by decide +kernel)) ggX11_down_X11_beneath
set_option maxRecDepth 20000 in
theorem ggX11_down_X11_fine : GoodIn wsX11_down wsX11_fine := goodIn_r _ [60, 33, 66, 67, 68, 69, 70, 71, 72, 73, 74, 75, 76, 77, 78, 79, 80, 81, 82, 83, 84, 85, 86, 87, 88, 89, 90, 91, 92, 93, 94, 95, 96, 97, 98, 99, 100, 101, 102, 103, 104, 105, 106, 107, 108, 109, 110, 111, 112, 113, 114, 115, 116, 117, 118, 119, 120, 121, 122, 123, 124, 125, 126, 127, 128, 129, 130, 131] (by decide +kernel) (by decide +kernel)
set_option maxRecDepth 20000 in
theorem gX11_down_X11_fine : GoodIn wsX11_down (wsV RX11 340 RX11 yX11_fine wsX11_fine) := goodIn_app (goodIn_of _ (by decide +kernel)) ggX11_down_X11_fine
set_option maxRecDepth 20000 in
theorem ggX11_down_X11_ask : GoodIn wsX11_down wsX11_ask := goodIn_r _ [64, 65, 66, 67, 68, 69, 70, 71, 72, 73, 74, 75, 76, 77, 78, 79, 80, 81, 82, 83, 84, 85, 86, 87, 88, 89, 90, 91, 92, 93, 94, 95, 96, 97, 98, 99, 100, 101, 102, 103, 104, 105, 106, 107, 108, 109, 110, 111, 112, 113, 114, 115, 116, 117, 118, 119, 120, 121, 122, 123, 124, 125, 126, 127, 128, 129, 130, 131] (by decide +kernel) (by decide +kernel)
set_option maxRecDepth 20000 in
theorem gX11_down_X11_ask : GoodIn wsX11_down (wsV RX11 202 RX11 yX11_ask wsX11_ask) := goodIn_app (goodIn_of _ (by decide +kernel)) ggX11_down_X11_ask
theorem dX11_down_0 : decode cX11_down 0 = .ok (.aload_n 0, 1) := by decide +kernel
theorem dX11_down_1 : decode cX11_down 1 = .ok (.iload_n 1, 1) := by decide +kernel
theorem dX11_down_2 : decode cX11_down 2 = .ok (.invokevirtual 343, 3) := by decide +kernel
theorem dX11_down_5 : decode cX11_down 5 = .ok (.istore_n 2, 1) := by decide +kernel
theorem dX11_down_6 : decode cX11_down 6 = .ok (.iload_n 2, 1) := by decide +kernel
theorem dX11_down_7 : decode cX11_down 7 = .ok (.ifCond .ge 5, 3) := by decide +kernel
theorem dX11_down_10 : decode cX11_down 10 = .ok (.iload_n 2, 1) := by decide +kernel
theorem dX11_down_11 : decode cX11_down 11 = .ok (.ireturn, 1) := by decide +kernel
theorem dX11_down_12 : decode cX11_down 12 = .ok (.aload_n 0, 1) := by decide +kernel
theorem dX11_down_13 : decode cX11_down 13 = .ok (.iload_n 1, 1) := by decide +kernel
theorem dX11_down_14 : decode cX11_down 14 = .ok (.iconst 4, 1) := by decide +kernel
theorem dX11_down_15 : decode cX11_down 15 = .ok (.invokevirtual 293, 3) := by decide +kernel
theorem dX11_down_18 : decode cX11_down 18 = .ok (.istore_n 3, 1) := by decide +kernel
theorem dX11_down_19 : decode cX11_down 19 = .ok (.iconst 0, 1) := by decide +kernel
theorem dX11_down_20 : decode cX11_down 20 = .ok (.istore 4, 2) := by decide +kernel
theorem dX11_down_22 : decode cX11_down 22 = .ok (.iload 4, 2) := by decide +kernel
theorem dX11_down_24 : decode cX11_down 24 = .ok (.aload_n 0, 1) := by decide +kernel
theorem dX11_down_25 : decode cX11_down 25 = .ok (.iload_n 1, 1) := by decide +kernel
theorem dX11_down_26 : decode cX11_down 26 = .ok (.invokevirtual 223, 3) := by decide +kernel
theorem dX11_down_29 : decode cX11_down 29 = .ok (.iconst 4, 1) := by decide +kernel
theorem dX11_down_30 : decode cX11_down 30 = .ok (.idiv, 1) := by decide +kernel
theorem dX11_down_31 : decode cX11_down 31 = .ok (.if_icmp .ge 348, 3) := by decide +kernel
theorem dX11_down_34 : decode cX11_down 34 = .ok (.aload_n 0, 1) := by decide +kernel
theorem dX11_down_35 : decode cX11_down 35 = .ok (.getfield 92, 3) := by decide +kernel
theorem dX11_down_38 : decode cX11_down 38 = .ok (.bipush 48, 2) := by decide +kernel
theorem dX11_down_40 : decode cX11_down 40 = .ok (.aload_n 0, 1) := by decide +kernel
theorem dX11_down_41 : decode cX11_down 41 = .ok (.getfield 105, 3) := by decide +kernel
theorem dX11_down_44 : decode cX11_down 44 = .ok (.iload_n 1, 1) := by decide +kernel
theorem dX11_down_45 : decode cX11_down 45 = .ok (.iaload, 1) := by decide +kernel
theorem dX11_down_46 : decode cX11_down 46 = .ok (.imul, 1) := by decide +kernel
theorem dX11_down_47 : decode cX11_down 47 = .ok (.aload_n 0, 1) := by decide +kernel
theorem dX11_down_48 : decode cX11_down 48 = .ok (.iload_n 1, 1) := by decide +kernel
theorem dX11_down_49 : decode cX11_down 49 = .ok (.iload 4, 2) := by decide +kernel
theorem dX11_down_51 : decode cX11_down 51 = .ok (.invokevirtual 337, 3) := by decide +kernel
theorem dX11_down_54 : decode cX11_down 54 = .ok (.iadd, 1) := by decide +kernel
theorem dX11_down_55 : decode cX11_down 55 = .ok (.iaload, 1) := by decide +kernel
theorem dX11_down_56 : decode cX11_down 56 = .ok (.istore 5, 2) := by decide +kernel
theorem dX11_down_58 : decode cX11_down 58 = .ok (.aload_n 0, 1) := by decide +kernel
theorem dX11_down_59 : decode cX11_down 59 = .ok (.getfield 117, 3) := by decide +kernel
theorem dX11_down_62 : decode cX11_down 62 = .ok (.bipush 48, 2) := by decide +kernel
theorem dX11_down_64 : decode cX11_down 64 = .ok (.iload_n 1, 1) := by decide +kernel
theorem dX11_down_65 : decode cX11_down 65 = .ok (.imul, 1) := by decide +kernel
theorem dX11_down_66 : decode cX11_down 66 = .ok (.iload 4, 2) := by decide +kernel
theorem dX11_down_68 : decode cX11_down 68 = .ok (.iadd, 1) := by decide +kernel
theorem dX11_down_69 : decode cX11_down 69 = .ok (.iaload, 1) := by decide +kernel
theorem dX11_down_70 : decode cX11_down 70 = .ok (.istore 6, 2) := by decide +kernel
theorem dX11_down_72 : decode cX11_down 72 = .ok (.iconst 0, 1) := by decide +kernel
theorem dX11_down_73 : decode cX11_down 73 = .ok (.istore 7, 2) := by decide +kernel
theorem dX11_down_75 : decode cX11_down 75 = .ok (.iload 7, 2) := by decide +kernel
theorem dX11_down_77 : decode cX11_down 77 = .ok (.iconst 4, 1) := by decide +kernel
theorem dX11_down_78 : decode cX11_down 78 = .ok (.if_icmp .ge 51, 3) := by decide +kernel
theorem dX11_down_81 : decode cX11_down 81 = .ok (.aload_n 0, 1) := by decide +kernel
theorem dX11_down_82 : decode cX11_down 82 = .ok (.getfield 156, 3) := by decide +kernel
theorem dX11_down_85 : decode cX11_down 85 = .ok (.iload 7, 2) := by decide +kernel
theorem dX11_down_87 : decode cX11_down 87 = .ok (.aload_n 0, 1) := by decide +kernel
theorem dX11_down_88 : decode cX11_down 88 = .ok (.getfield 92, 3) := by decide +kernel
theorem dX11_down_91 : decode cX11_down 91 = .ok (.bipush 48, 2) := by decide +kernel
theorem dX11_down_93 : decode cX11_down 93 = .ok (.iload_n 1, 1) := by decide +kernel
theorem dX11_down_94 : decode cX11_down 94 = .ok (.imul, 1) := by decide +kernel
theorem dX11_down_95 : decode cX11_down 95 = .ok (.aload_n 0, 1) := by decide +kernel
theorem dX11_down_96 : decode cX11_down 96 = .ok (.iload_n 1, 1) := by decide +kernel
theorem dX11_down_97 : decode cX11_down 97 = .ok (.iload 4, 2) := by decide +kernel
theorem dX11_down_99 : decode cX11_down 99 = .ok (.iload 7, 2) := by decide +kernel
theorem dX11_down_101 : decode cX11_down 101 = .ok (.invokevirtual 340, 3) := by decide +kernel
theorem dX11_down_104 : decode cX11_down 104 = .ok (.iadd, 1) := by decide +kernel
theorem dX11_down_105 : decode cX11_down 105 = .ok (.iaload, 1) := by decide +kernel
theorem dX11_down_106 : decode cX11_down 106 = .ok (.iload 5, 2) := by decide +kernel
theorem dX11_down_108 : decode cX11_down 108 = .ok (.iadd, 1) := by decide +kernel
theorem dX11_down_109 : decode cX11_down 109 = .ok (.aload_n 0, 1) := by decide +kernel
theorem dX11_down_110 : decode cX11_down 110 = .ok (.getfield 114, 3) := by decide +kernel
theorem dX11_down_113 : decode cX11_down 113 = .ok (.bipush 48, 2) := by decide +kernel
theorem dX11_down_115 : decode cX11_down 115 = .ok (.iload_n 1, 1) := by decide +kernel
theorem dX11_down_116 : decode cX11_down 116 = .ok (.imul, 1) := by decide +kernel
theorem dX11_down_117 : decode cX11_down 117 = .ok (.iload 4, 2) := by decide +kernel
theorem dX11_down_119 : decode cX11_down 119 = .ok (.iadd, 1) := by decide +kernel
theorem dX11_down_120 : decode cX11_down 120 = .ok (.iaload, 1) := by decide +kernel
theorem dX11_down_121 : decode cX11_down 121 = .ok (.isub, 1) := by decide +kernel
theorem dX11_down_122 : decode cX11_down 122 = .ok (.iastore, 1) := by decide +kernel
theorem dX11_down_123 : decode cX11_down 123 = .ok (.iinc 7 1, 3) := by decide +kernel
theorem dX11_down_126 : decode cX11_down 126 = .ok (.goto (-51), 3) := by decide +kernel
theorem dX11_down_129 : decode cX11_down 129 = .ok (.iconst 0, 1) := by decide +kernel
theorem dX11_down_130 : decode cX11_down 130 = .ok (.istore 7, 2) := by decide +kernel
theorem dX11_down_132 : decode cX11_down 132 = .ok (.iload 7, 2) := by decide +kernel
theorem dX11_down_134 : decode cX11_down 134 = .ok (.iconst 4, 1) := by decide +kernel
theorem dX11_down_135 : decode cX11_down 135 = .ok (.if_icmp .ge 131, 3) := by decide +kernel
theorem dX11_down_138 : decode cX11_down 138 = .ok (.aload_n 0, 1) := by decide +kernel
theorem dX11_down_139 : decode cX11_down 139 = .ok (.getfield 156, 3) := by decide +kernel
theorem dX11_down_142 : decode cX11_down 142 = .ok (.iload 7, 2) := by decide +kernel
theorem dX11_down_144 : decode cX11_down 144 = .ok (.iaload, 1) := by decide +kernel
theorem dX11_down_145 : decode cX11_down 145 = .ok (.ifCond .ge 14, 3) := by decide +kernel
theorem dX11_down_148 : decode cX11_down 148 = .ok (.aload_n 0, 1) := by decide +kernel
theorem dX11_down_149 : decode cX11_down 149 = .ok (.getfield 156, 3) := by decide +kernel
theorem dX11_down_152 : decode cX11_down 152 = .ok (.iload 7, 2) := by decide +kernel
theorem dX11_down_154 : decode cX11_down 154 = .ok (.iaload, 1) := by decide +kernel
theorem dX11_down_155 : decode cX11_down 155 = .ok (.ineg, 1) := by decide +kernel
theorem dX11_down_156 : decode cX11_down 156 = .ok (.goto 4, 3) := by decide +kernel
theorem dX11_down_159 : decode cX11_down 159 = .ok (.iconst 0, 1) := by decide +kernel
theorem dX11_down_160 : decode cX11_down 160 = .ok (.istore 8, 2) := by decide +kernel
theorem dX11_down_162 : decode cX11_down 162 = .ok (.aload_n 0, 1) := by decide +kernel
theorem dX11_down_163 : decode cX11_down 163 = .ok (.getfield 156, 3) := by decide +kernel
theorem dX11_down_166 : decode cX11_down 166 = .ok (.iload 7, 2) := by decide +kernel
theorem dX11_down_168 : decode cX11_down 168 = .ok (.dup2, 1) := by decide +kernel
theorem dX11_down_169 : decode cX11_down 169 = .ok (.iaload, 1) := by decide +kernel
theorem dX11_down_170 : decode cX11_down 170 = .ok (.iload 8, 2) := by decide +kernel
theorem dX11_down_172 : decode cX11_down 172 = .ok (.iadd, 1) := by decide +kernel
theorem dX11_down_173 : decode cX11_down 173 = .ok (.iastore, 1) := by decide +kernel
theorem dX11_down_174 : decode cX11_down 174 = .ok (.iconst 1, 1) := by decide +kernel
theorem dX11_down_175 : decode cX11_down 175 = .ok (.istore 9, 2) := by decide +kernel
theorem dX11_down_177 : decode cX11_down 177 = .ok (.iload 9, 2) := by decide +kernel
theorem dX11_down_179 : decode cX11_down 179 = .ok (.iconst 4, 1) := by decide +kernel
theorem dX11_down_180 : decode cX11_down 180 = .ok (.if_icmp .ge 73, 3) := by decide +kernel
theorem dX11_down_183 : decode cX11_down 183 = .ok (.aload_n 0, 1) := by decide +kernel
theorem dX11_down_184 : decode cX11_down 184 = .ok (.getfield 156, 3) := by decide +kernel
theorem dX11_down_187 : decode cX11_down 187 = .ok (.iload 7, 2) := by decide +kernel
theorem dX11_down_189 : decode cX11_down 189 = .ok (.iload 9, 2) := by decide +kernel
theorem dX11_down_191 : decode cX11_down 191 = .ok (.iadd, 1) := by decide +kernel
theorem dX11_down_192 : decode cX11_down 192 = .ok (.iconst 4, 1) := by decide +kernel
theorem dX11_down_193 : decode cX11_down 193 = .ok (.irem, 1) := by decide +kernel
theorem dX11_down_194 : decode cX11_down 194 = .ok (.iaload, 1) := by decide +kernel
theorem dX11_down_195 : decode cX11_down 195 = .ok (.istore 10, 2) := by decide +kernel
theorem dX11_down_197 : decode cX11_down 197 = .ok (.iload 10, 2) := by decide +kernel
theorem dX11_down_199 : decode cX11_down 199 = .ok (.iconst 1, 1) := by decide +kernel
theorem dX11_down_200 : decode cX11_down 200 = .ok (.if_icmp .ge 7, 3) := by decide +kernel
theorem dX11_down_203 : decode cX11_down 203 = .ok (.iconst 0, 1) := by decide +kernel
theorem dX11_down_204 : decode cX11_down 204 = .ok (.goto 17, 3) := by decide +kernel
theorem dX11_down_207 : decode cX11_down 207 = .ok (.iload 10, 2) := by decide +kernel
theorem dX11_down_209 : decode cX11_down 209 = .ok (.iload 8, 2) := by decide +kernel
theorem dX11_down_211 : decode cX11_down 211 = .ok (.if_icmp .ge 8, 3) := by decide +kernel
theorem dX11_down_214 : decode cX11_down 214 = .ok (.iload 10, 2) := by decide +kernel
theorem dX11_down_216 : decode cX11_down 216 = .ok (.goto 5, 3) := by decide +kernel
theorem dX11_down_219 : decode cX11_down 219 = .ok (.iload 8, 2) := by decide +kernel
theorem dX11_down_221 : decode cX11_down 221 = .ok (.istore 11, 2) := by decide +kernel
theorem dX11_down_223 : decode cX11_down 223 = .ok (.aload_n 0, 1) := by decide +kernel
theorem dX11_down_224 : decode cX11_down 224 = .ok (.getfield 156, 3) := by decide +kernel
theorem dX11_down_227 : decode cX11_down 227 = .ok (.iload 7, 2) := by decide +kernel
theorem dX11_down_229 : decode cX11_down 229 = .ok (.iload 9, 2) := by decide +kernel
theorem dX11_down_231 : decode cX11_down 231 = .ok (.iadd, 1) := by decide +kernel
theorem dX11_down_232 : decode cX11_down 232 = .ok (.iconst 4, 1) := by decide +kernel
theorem dX11_down_233 : decode cX11_down 233 = .ok (.irem, 1) := by decide +kernel
theorem dX11_down_234 : decode cX11_down 234 = .ok (.dup2, 1) := by decide +kernel
theorem dX11_down_235 : decode cX11_down 235 = .ok (.iaload, 1) := by decide +kernel
theorem dX11_down_236 : decode cX11_down 236 = .ok (.iload 11, 2) := by decide +kernel
theorem dX11_down_238 : decode cX11_down 238 = .ok (.isub, 1) := by decide +kernel
theorem dX11_down_239 : decode cX11_down 239 = .ok (.iastore, 1) := by decide +kernel
theorem dX11_down_240 : decode cX11_down 240 = .ok (.iload 8, 2) := by decide +kernel
theorem dX11_down_242 : decode cX11_down 242 = .ok (.iload 11, 2) := by decide +kernel
theorem dX11_down_244 : decode cX11_down 244 = .ok (.isub, 1) := by decide +kernel
theorem dX11_down_245 : decode cX11_down 245 = .ok (.istore 8, 2) := by decide +kernel
theorem dX11_down_247 : decode cX11_down 247 = .ok (.iinc 9 1, 3) := by decide +kernel
theorem dX11_down_250 : decode cX11_down 250 = .ok (.goto (-73), 3) := by decide +kernel
theorem dX11_down_253 : decode cX11_down 253 = .ok (.iload 6, 2) := by decide +kernel
theorem dX11_down_255 : decode cX11_down 255 = .ok (.iload 8, 2) := by decide +kernel
theorem dX11_down_257 : decode cX11_down 257 = .ok (.isub, 1) := by decide +kernel
theorem dX11_down_258 : decode cX11_down 258 = .ok (.istore 6, 2) := by decide +kernel
theorem dX11_down_260 : decode cX11_down 260 = .ok (.iinc 7 1, 3) := by decide +kernel
theorem dX11_down_263 : decode cX11_down 263 = .ok (.goto (-131), 3) := by decide +kernel
theorem dX11_down_266 : decode cX11_down 266 = .ok (.iconst 0, 1) := by decide +kernel
theorem dX11_down_267 : decode cX11_down 267 = .ok (.istore 7, 2) := by decide +kernel
theorem dX11_down_269 : decode cX11_down 269 = .ok (.iload 7, 2) := by decide +kernel
theorem dX11_down_271 : decode cX11_down 271 = .ok (.iconst 4, 1) := by decide +kernel
theorem dX11_down_272 : decode cX11_down 272 = .ok (.if_icmp .ge 73, 3) := by decide +kernel
theorem dX11_down_275 : decode cX11_down 275 = .ok (.aload_n 0, 1) := by decide +kernel
theorem dX11_down_276 : decode cX11_down 276 = .ok (.getfield 156, 3) := by decide +kernel
theorem dX11_down_279 : decode cX11_down 279 = .ok (.iload 7, 2) := by decide +kernel
theorem dX11_down_281 : decode cX11_down 281 = .ok (.iaload, 1) := by decide +kernel
theorem dX11_down_282 : decode cX11_down 282 = .ok (.ldc 195, 2) := by decide +kernel
theorem dX11_down_284 : decode cX11_down 284 = .ok (.if_icmp .le 16, 3) := by decide +kernel
theorem dX11_down_287 : decode cX11_down 287 = .ok (.aload_n 0, 1) := by decide +kernel
theorem dX11_down_288 : decode cX11_down 288 = .ok (.getfield 156, 3) := by decide +kernel
theorem dX11_down_291 : decode cX11_down 291 = .ok (.iload 7, 2) := by decide +kernel
theorem dX11_down_293 : decode cX11_down 293 = .ok (.iaload, 1) := by decide +kernel
theorem dX11_down_294 : decode cX11_down 294 = .ok (.ldc 195, 2) := by decide +kernel
theorem dX11_down_296 : decode cX11_down 296 = .ok (.isub, 1) := by decide +kernel
theorem dX11_down_297 : decode cX11_down 297 = .ok (.goto 4, 3) := by decide +kernel
theorem dX11_down_300 : decode cX11_down 300 = .ok (.iconst 0, 1) := by decide +kernel
theorem dX11_down_301 : decode cX11_down 301 = .ok (.istore 8, 2) := by decide +kernel
theorem dX11_down_303 : decode cX11_down 303 = .ok (.iload 6, 2) := by decide +kernel
theorem dX11_down_305 : decode cX11_down 305 = .ok (.iload 8, 2) := by decide +kernel
theorem dX11_down_307 : decode cX11_down 307 = .ok (.iadd, 1) := by decide +kernel
theorem dX11_down_308 : decode cX11_down 308 = .ok (.istore 6, 2) := by decide +kernel
theorem dX11_down_310 : decode cX11_down 310 = .ok (.aload_n 0, 1) := by decide +kernel
theorem dX11_down_311 : decode cX11_down 311 = .ok (.getfield 92, 3) := by decide +kernel
theorem dX11_down_314 : decode cX11_down 314 = .ok (.bipush 48, 2) := by decide +kernel
theorem dX11_down_316 : decode cX11_down 316 = .ok (.iload_n 1, 1) := by decide +kernel
theorem dX11_down_317 : decode cX11_down 317 = .ok (.imul, 1) := by decide +kernel
theorem dX11_down_318 : decode cX11_down 318 = .ok (.aload_n 0, 1) := by decide +kernel
theorem dX11_down_319 : decode cX11_down 319 = .ok (.iload_n 1, 1) := by decide +kernel
theorem dX11_down_320 : decode cX11_down 320 = .ok (.iload 4, 2) := by decide +kernel
theorem dX11_down_322 : decode cX11_down 322 = .ok (.iload 7, 2) := by decide +kernel
theorem dX11_down_324 : decode cX11_down 324 = .ok (.invokevirtual 340, 3) := by decide +kernel
theorem dX11_down_327 : decode cX11_down 327 = .ok (.iadd, 1) := by decide +kernel
theorem dX11_down_328 : decode cX11_down 328 = .ok (.aload_n 0, 1) := by decide +kernel
theorem dX11_down_329 : decode cX11_down 329 = .ok (.getfield 156, 3) := by decide +kernel
theorem dX11_down_332 : decode cX11_down 332 = .ok (.iload 7, 2) := by decide +kernel
theorem dX11_down_334 : decode cX11_down 334 = .ok (.iaload, 1) := by decide +kernel
theorem dX11_down_335 : decode cX11_down 335 = .ok (.iload 8, 2) := by decide +kernel
theorem dX11_down_337 : decode cX11_down 337 = .ok (.isub, 1) := by decide +kernel
theorem dX11_down_338 : decode cX11_down 338 = .ok (.iastore, 1) := by decide +kernel
theorem dX11_down_339 : decode cX11_down 339 = .ok (.iinc 7 1, 3) := by decide +kernel
theorem dX11_down_342 : decode cX11_down 342 = .ok (.goto (-73), 3) := by decide +kernel
theorem dX11_down_345 : decode cX11_down 345 = .ok (.aload_n 0, 1) := by decide +kernel
theorem dX11_down_346 : decode cX11_down 346 = .ok (.getfield 117, 3) := by decide +kernel
theorem dX11_down_349 : decode cX11_down 349 = .ok (.bipush 48, 2) := by decide +kernel
theorem dX11_down_351 : decode cX11_down 351 = .ok (.iload_n 1, 1) := by decide +kernel
theorem dX11_down_352 : decode cX11_down 352 = .ok (.imul, 1) := by decide +kernel
theorem dX11_down_353 : decode cX11_down 353 = .ok (.iload 4, 2) := by decide +kernel
theorem dX11_down_355 : decode cX11_down 355 = .ok (.iadd, 1) := by decide +kernel
theorem dX11_down_356 : decode cX11_down 356 = .ok (.iload 6, 2) := by decide +kernel
theorem dX11_down_358 : decode cX11_down 358 = .ok (.iastore, 1) := by decide +kernel
theorem dX11_down_359 : decode cX11_down 359 = .ok (.aload_n 0, 1) := by decide +kernel
theorem dX11_down_360 : decode cX11_down 360 = .ok (.getfield 114, 3) := by decide +kernel
theorem dX11_down_363 : decode cX11_down 363 = .ok (.bipush 48, 2) := by decide +kernel
theorem dX11_down_365 : decode cX11_down 365 = .ok (.iload_n 1, 1) := by decide +kernel
theorem dX11_down_366 : decode cX11_down 366 = .ok (.imul, 1) := by decide +kernel
theorem dX11_down_367 : decode cX11_down 367 = .ok (.iload 4, 2) := by decide +kernel
theorem dX11_down_369 : decode cX11_down 369 = .ok (.iadd, 1) := by decide +kernel
theorem dX11_down_370 : decode cX11_down 370 = .ok (.iload 5, 2) := by decide +kernel
theorem dX11_down_372 : decode cX11_down 372 = .ok (.iastore, 1) := by decide +kernel
theorem dX11_down_373 : decode cX11_down 373 = .ok (.iinc 4 1, 3) := by decide +kernel
theorem dX11_down_376 : decode cX11_down 376 = .ok (.goto (-354), 3) := by decide +kernel
theorem dX11_down_379 : decode cX11_down 379 = .ok (.aload_n 0, 1) := by decide +kernel
theorem dX11_down_380 : decode cX11_down 380 = .ok (.aload_n 0, 1) := by decide +kernel
theorem dX11_down_381 : decode cX11_down 381 = .ok (.iload_n 1, 1) := by decide +kernel
theorem dX11_down_382 : decode cX11_down 382 = .ok (.iconst 4, 1) := by decide +kernel
theorem dX11_down_383 : decode cX11_down 383 = .ok (.invokevirtual 293, 3) := by decide +kernel
theorem dX11_down_386 : decode cX11_down 386 = .ok (.iload_n 3, 1) := by decide +kernel
theorem dX11_down_387 : decode cX11_down 387 = .ok (.isub, 1) := by decide +kernel
theorem dX11_down_388 : decode cX11_down 388 = .ok (.iconst 1, 1) := by decide +kernel
theorem dX11_down_389 : decode cX11_down 389 = .ok (.invokevirtual 202, 3) := by decide +kernel
theorem dX11_down_392 : decode cX11_down 392 = .ok (.ireturn, 1) := by decide +kernel
set_option maxRecDepth 20000 in
theorem ggX11_tryPulls_X11_bring : GoodIn wsX11_tryPulls wsX11_bring := goodIn_r _ [12, 7, 13, 14, 1, 15, 16, 17, 4, 18, 19, 20, 21, 22, 23, 24, 25, 26, 27, 28, 29, 30, 31, 32, 33, 34, 11, 35, 36, 37, 114, 115, 116, 117, 118, 119, 120, 121, 122, 123, 124, 125, 126, 127, 128, 129, 130, 131, 132, 133, 134, 135, 136, 137, 138, 139, 140, 141, 142, 143, 144, 145, 146, 147, 148, 149, 150, 151, 152, 153, 154, 155, 156, 157, 158, 159, 160, 161, 162, 163, 164, 165, 166, 167, 168, 169, 170, 171, 172, 173, 174, 175, 176, 177, 178, 179] (by decide +kernel) (by decide +kernel)
set_option maxRecDepth 20000 in
theorem gX11_tryPulls_X11_bring : GoodIn wsX11_tryPulls (wsV RX11 299 RX11 yX11_bring wsX11_bring) := goodIn_app (goodIn_of _ (by decide +kernel)) ggX11_tryPulls_X11_bring
set_option maxRecDepth 20000 in
theorem ggX11_tryPulls_X11_stepOnce : GoodIn wsX11_tryPulls wsX11_stepOnce := goodIn_r _ [41, 22, 42, 24, 25, 43, 18, 30, 44, 28, 29, 45, 46, 47, 48, 4, 49, 50, 51, 52, 53, 11, 54, 55, 56, 57, 58, 59, 13, 14, 60, 61, 62, 63, 64, 65, 66, 67, 68, 69, 70, 71, 72, 73, 74, 31, 1, 7, 16, 17, 15, 27, 75, 76, 77, 78, 79, 80, 81, 82, 83, 84, 85, 86, 20, 2, 87, 88, 89, 90, 91, 92, 93, 94, 19, 95, 96, 97, 98, 3, 21, 99, 100, 101, 102, 103, 104, 105, 106, 107, 108, 109, 110, 111, 112, 113, 114, 115, 116, 117, 118, 119, 120, 121, 122, 123, 124, 125, 126, 127, 128, 129, 130, 131, 132, 133, 134, 135, 136, 137, 138, 139, 140, 141, 142, 143, 144, 145, 146, 147, 148, 149, 150, 151, 152, 153, 154, 155, 156, 157, 158, 159, 160, 161, 162, 163, 164, 165, 166, 167, 168, 169, 170, 171, 172, 173, 174, 175, 176, 177, 178, 179] (by decide +kernel) (by decide +kernel)
set_option maxRecDepth 20000 in
theorem gX11_tryPulls_X11_stepOnce : GoodIn wsX11_tryPulls (wsV RX11 284 RX11 yX11_stepOnce wsX11_stepOnce) := goodIn_app (goodIn_of _ (by decide +kernel)) ggX11_tryPulls_X11_stepOnce
set_option maxRecDepth 20000 in
theorem ggX11_tryPulls_X11_level : GoodIn wsX11_tryPulls wsX11_level := goodIn_r _ [78, 27, 28, 114, 115, 116, 117, 118, 119, 120, 121, 122, 123, 124, 125, 126, 127, 128, 129, 130, 131, 132, 133, 134, 135, 136, 137, 138, 139, 140, 141, 142, 143, 144, 145, 146, 147, 148, 149, 150, 151, 152, 153, 154, 155, 156, 157, 158, 159, 160, 161, 162, 163, 164, 165, 166, 167, 168, 169, 170, 171, 172, 173, 174, 175, 176, 177, 178, 179] (by decide +kernel) (by decide +kernel)
set_option maxRecDepth 20000 in
theorem gX11_tryPulls_X11_level : GoodIn wsX11_tryPulls (wsV RX11 243 RX11 yX11_level wsX11_level) := goodIn_app (goodIn_of _ (by decide +kernel)) ggX11_tryPulls_X11_level
theorem dX11_tryPulls_0 : decode cX11_tryPulls 0 = .ok (.iconst 1, 1) := by decide +kernel
theorem dX11_tryPulls_1 : decode cX11_tryPulls 1 = .ok (.istore 4, 2) := by decide +kernel
theorem dX11_tryPulls_3 : decode cX11_tryPulls 3 = .ok (.iload 4, 2) := by decide +kernel
theorem dX11_tryPulls_5 : decode cX11_tryPulls 5 = .ok (.bipush 9, 2) := by decide +kernel
theorem dX11_tryPulls_7 : decode cX11_tryPulls 7 = .ok (.if_icmp .ge 174, 3) := by decide +kernel
theorem dX11_tryPulls_10 : decode cX11_tryPulls 10 = .ok (.aload_n 0, 1) := by decide +kernel
theorem dX11_tryPulls_11 : decode cX11_tryPulls 11 = .ok (.iload_n 1, 1) := by decide +kernel
theorem dX11_tryPulls_12 : decode cX11_tryPulls 12 = .ok (.bipush 6, 2) := by decide +kernel
theorem dX11_tryPulls_14 : decode cX11_tryPulls 14 = .ok (.invokevirtual 299, 3) := by decide +kernel
theorem dX11_tryPulls_17 : decode cX11_tryPulls 17 = .ok (.aload_n 0, 1) := by decide +kernel
theorem dX11_tryPulls_18 : decode cX11_tryPulls 18 = .ok (.getfield 47, 3) := by decide +kernel
theorem dX11_tryPulls_21 : decode cX11_tryPulls 21 = .ok (.bipush 6, 2) := by decide +kernel
theorem dX11_tryPulls_23 : decode cX11_tryPulls 23 = .ok (.iload 4, 2) := by decide +kernel
theorem dX11_tryPulls_25 : decode cX11_tryPulls 25 = .ok (.iastore, 1) := by decide +kernel
theorem dX11_tryPulls_26 : decode cX11_tryPulls 26 = .ok (.lconst 0, 1) := by decide +kernel
theorem dX11_tryPulls_27 : decode cX11_tryPulls 27 = .ok (.lstore 5, 2) := by decide +kernel
theorem dX11_tryPulls_29 : decode cX11_tryPulls 29 = .ok (.iconst 0, 1) := by decide +kernel
theorem dX11_tryPulls_30 : decode cX11_tryPulls 30 = .ok (.istore 7, 2) := by decide +kernel
theorem dX11_tryPulls_32 : decode cX11_tryPulls 32 = .ok (.iload 7, 2) := by decide +kernel
theorem dX11_tryPulls_34 : decode cX11_tryPulls 34 = .ok (.aload_n 0, 1) := by decide +kernel
theorem dX11_tryPulls_35 : decode cX11_tryPulls 35 = .ok (.getfield 17, 3) := by decide +kernel
theorem dX11_tryPulls_38 : decode cX11_tryPulls 38 = .ok (.iload_n 3, 1) := by decide +kernel
theorem dX11_tryPulls_39 : decode cX11_tryPulls 39 = .ok (.iaload, 1) := by decide +kernel
theorem dX11_tryPulls_40 : decode cX11_tryPulls 40 = .ok (.if_icmp .ge 126, 3) := by decide +kernel
theorem dX11_tryPulls_43 : decode cX11_tryPulls 43 = .ok (.lload 5, 2) := by decide +kernel
theorem dX11_tryPulls_45 : decode cX11_tryPulls 45 = .ok (.lconst 0, 1) := by decide +kernel
theorem dX11_tryPulls_46 : decode cX11_tryPulls 46 = .ok (.lcmp, 1) := by decide +kernel
theorem dX11_tryPulls_47 : decode cX11_tryPulls 47 = .ok (.ifCond .lt 119, 3) := by decide +kernel
theorem dX11_tryPulls_50 : decode cX11_tryPulls 50 = .ok (.aload_n 0, 1) := by decide +kernel
theorem dX11_tryPulls_51 : decode cX11_tryPulls 51 = .ok (.getfield 20, 3) := by decide +kernel
theorem dX11_tryPulls_54 : decode cX11_tryPulls 54 = .ok (.bipush 48, 2) := by decide +kernel
theorem dX11_tryPulls_56 : decode cX11_tryPulls 56 = .ok (.iload_n 3, 1) := by decide +kernel
theorem dX11_tryPulls_57 : decode cX11_tryPulls 57 = .ok (.imul, 1) := by decide +kernel
theorem dX11_tryPulls_58 : decode cX11_tryPulls 58 = .ok (.iload 7, 2) := by decide +kernel
theorem dX11_tryPulls_60 : decode cX11_tryPulls 60 = .ok (.iadd, 1) := by decide +kernel
theorem dX11_tryPulls_61 : decode cX11_tryPulls 61 = .ok (.iaload, 1) := by decide +kernel
theorem dX11_tryPulls_62 : decode cX11_tryPulls 62 = .ok (.istore 8, 2) := by decide +kernel
theorem dX11_tryPulls_64 : decode cX11_tryPulls 64 = .ok (.aload_n 0, 1) := by decide +kernel
theorem dX11_tryPulls_65 : decode cX11_tryPulls 65 = .ok (.bipush 6, 2) := by decide +kernel
theorem dX11_tryPulls_67 : decode cX11_tryPulls 67 = .ok (.invokevirtual 284, 3) := by decide +kernel
theorem dX11_tryPulls_70 : decode cX11_tryPulls 70 = .ok (.ifCond .eq 16, 3) := by decide +kernel
theorem dX11_tryPulls_73 : decode cX11_tryPulls 73 = .ok (.aload_n 0, 1) := by decide +kernel
theorem dX11_tryPulls_74 : decode cX11_tryPulls 74 = .ok (.bipush 6, 2) := by decide +kernel
theorem dX11_tryPulls_76 : decode cX11_tryPulls 76 = .ok (.iload_n 2, 1) := by decide +kernel
theorem dX11_tryPulls_77 : decode cX11_tryPulls 77 = .ok (.invokevirtual 243, 3) := by decide +kernel
theorem dX11_tryPulls_80 : decode cX11_tryPulls 80 = .ok (.iload 8, 2) := by decide +kernel
theorem dX11_tryPulls_82 : decode cX11_tryPulls 82 = .ok (.isub, 1) := by decide +kernel
theorem dX11_tryPulls_83 : decode cX11_tryPulls 83 = .ok (.goto 5, 3) := by decide +kernel
theorem dX11_tryPulls_86 : decode cX11_tryPulls 86 = .ok (.bipush (-9), 2) := by decide +kernel
theorem dX11_tryPulls_88 : decode cX11_tryPulls 88 = .ok (.istore 9, 2) := by decide +kernel
theorem dX11_tryPulls_90 : decode cX11_tryPulls 90 = .ok (.aload_n 0, 1) := by decide +kernel
theorem dX11_tryPulls_91 : decode cX11_tryPulls 91 = .ok (.getfield 59, 3) := by decide +kernel
theorem dX11_tryPulls_94 : decode cX11_tryPulls 94 = .ok (.bipush 6, 2) := by decide +kernel
theorem dX11_tryPulls_96 : decode cX11_tryPulls 96 = .ok (.iaload, 1) := by decide +kernel
theorem dX11_tryPulls_97 : decode cX11_tryPulls 97 = .ok (.aload_n 0, 1) := by decide +kernel
theorem dX11_tryPulls_98 : decode cX11_tryPulls 98 = .ok (.getfield 59, 3) := by decide +kernel
theorem dX11_tryPulls_101 : decode cX11_tryPulls 101 = .ok (.iload_n 1, 1) := by decide +kernel
theorem dX11_tryPulls_102 : decode cX11_tryPulls 102 = .ok (.iaload, 1) := by decide +kernel
theorem dX11_tryPulls_103 : decode cX11_tryPulls 103 = .ok (.iload 7, 2) := by decide +kernel
theorem dX11_tryPulls_105 : decode cX11_tryPulls 105 = .ok (.iadd, 1) := by decide +kernel
theorem dX11_tryPulls_106 : decode cX11_tryPulls 106 = .ok (.iconst 1, 1) := by decide +kernel
theorem dX11_tryPulls_107 : decode cX11_tryPulls 107 = .ok (.iadd, 1) := by decide +kernel
theorem dX11_tryPulls_108 : decode cX11_tryPulls 108 = .ok (.if_icmp .ne 7, 3) := by decide +kernel
theorem dX11_tryPulls_111 : decode cX11_tryPulls 111 = .ok (.iconst 1, 1) := by decide +kernel
theorem dX11_tryPulls_112 : decode cX11_tryPulls 112 = .ok (.goto 4, 3) := by decide +kernel
theorem dX11_tryPulls_115 : decode cX11_tryPulls 115 = .ok (.iconst 0, 1) := by decide +kernel
theorem dX11_tryPulls_116 : decode cX11_tryPulls 116 = .ok (.istore 10, 2) := by decide +kernel
theorem dX11_tryPulls_118 : decode cX11_tryPulls 118 = .ok (.iload 10, 2) := by decide +kernel
theorem dX11_tryPulls_120 : decode cX11_tryPulls 120 = .ok (.ifCond .ne 9, 3) := by decide +kernel
theorem dX11_tryPulls_123 : decode cX11_tryPulls 123 = .ok (.ldc2_w 346, 3) := by decide +kernel
theorem dX11_tryPulls_126 : decode cX11_tryPulls 126 = .ok (.goto 32, 3) := by decide +kernel
theorem dX11_tryPulls_129 : decode cX11_tryPulls 129 = .ok (.iload 8, 2) := by decide +kernel
theorem dX11_tryPulls_131 : decode cX11_tryPulls 131 = .ok (.bipush (-9), 2) := by decide +kernel
theorem dX11_tryPulls_133 : decode cX11_tryPulls 133 = .ok (.if_icmp .ne 8, 3) := by decide +kernel
theorem dX11_tryPulls_136 : decode cX11_tryPulls 136 = .ok (.lload 5, 2) := by decide +kernel
theorem dX11_tryPulls_138 : decode cX11_tryPulls 138 = .ok (.goto 20, 3) := by decide +kernel
theorem dX11_tryPulls_141 : decode cX11_tryPulls 141 = .ok (.lload 5, 2) := by decide +kernel
theorem dX11_tryPulls_143 : decode cX11_tryPulls 143 = .ok (.iload 9, 2) := by decide +kernel
theorem dX11_tryPulls_145 : decode cX11_tryPulls 145 = .ok (.ifCond .ge 9, 3) := by decide +kernel
theorem dX11_tryPulls_148 : decode cX11_tryPulls 148 = .ok (.iload 9, 2) := by decide +kernel
theorem dX11_tryPulls_150 : decode cX11_tryPulls 150 = .ok (.ineg, 1) := by decide +kernel
theorem dX11_tryPulls_151 : decode cX11_tryPulls 151 = .ok (.goto 5, 3) := by decide +kernel
theorem dX11_tryPulls_154 : decode cX11_tryPulls 154 = .ok (.iload 9, 2) := by decide +kernel
theorem dX11_tryPulls_156 : decode cX11_tryPulls 156 = .ok (.i2l, 1) := by decide +kernel
theorem dX11_tryPulls_157 : decode cX11_tryPulls 157 = .ok (.ladd, 1) := by decide +kernel
theorem dX11_tryPulls_158 : decode cX11_tryPulls 158 = .ok (.lstore 5, 2) := by decide +kernel
theorem dX11_tryPulls_160 : decode cX11_tryPulls 160 = .ok (.iinc 7 1, 3) := by decide +kernel
theorem dX11_tryPulls_163 : decode cX11_tryPulls 163 = .ok (.goto (-131), 3) := by decide +kernel
theorem dX11_tryPulls_166 : decode cX11_tryPulls 166 = .ok (.aload_n 0, 1) := by decide +kernel
theorem dX11_tryPulls_167 : decode cX11_tryPulls 167 = .ok (.getfield 159, 3) := by decide +kernel
theorem dX11_tryPulls_170 : decode cX11_tryPulls 170 = .ok (.iload 4, 2) := by decide +kernel
theorem dX11_tryPulls_172 : decode cX11_tryPulls 172 = .ok (.lload 5, 2) := by decide +kernel
theorem dX11_tryPulls_174 : decode cX11_tryPulls 174 = .ok (.lastore, 1) := by decide +kernel
theorem dX11_tryPulls_175 : decode cX11_tryPulls 175 = .ok (.iinc 4 1, 3) := by decide +kernel
theorem dX11_tryPulls_178 : decode cX11_tryPulls 178 = .ok (.goto (-175), 3) := by decide +kernel
theorem dX11_tryPulls_181 : decode cX11_tryPulls 181 = .ok (.aload_n 0, 1) := by decide +kernel
theorem dX11_tryPulls_182 : decode cX11_tryPulls 182 = .ok (.getfield 38, 3) := by decide +kernel
theorem dX11_tryPulls_185 : decode cX11_tryPulls 185 = .ok (.bipush 6, 2) := by decide +kernel
theorem dX11_tryPulls_187 : decode cX11_tryPulls 187 = .ok (.bipush (-9), 2) := by decide +kernel
theorem dX11_tryPulls_189 : decode cX11_tryPulls 189 = .ok (.iastore, 1) := by decide +kernel
theorem dX11_tryPulls_190 : decode cX11_tryPulls 190 = .ok (.return_, 1) := by decide +kernel
set_option maxRecDepth 20000 in
theorem ggX11_askedFit_X11_isSix : GoodIn wsX11_askedFit wsX11_isSix := goodIn_r _ [6, 7, 8, 5, 9] (by decide +kernel) (by decide +kernel)
set_option maxRecDepth 20000 in
theorem gX11_askedFit_X11_isSix : GoodIn wsX11_askedFit (va_wsS RX11 186 yX11_isSix wsX11_isSix) := goodIn_app (goodIn_of _ (by decide +kernel)) ggX11_askedFit_X11_isSix
set_option maxRecDepth 20000 in
theorem ggX11_askedFit_X11_meets : GoodIn wsX11_askedFit wsX11_meets := goodIn_r _ [13, 14, 15, 31, 32, 33, 34, 35, 36, 37, 38, 39, 40, 41, 42, 43, 44, 45, 46, 47, 48, 49, 50, 51, 52, 53, 54, 55, 56, 57, 58, 59, 60, 61, 62, 63, 64, 65, 66, 67, 68, 69, 70, 71, 72, 73, 74, 75, 76, 77, 78, 79, 80, 81, 82, 83, 84, 85, 86, 87, 88, 89, 90, 91, 92, 93, 94, 95, 96] (by decide +kernel) (by decide +kernel)
set_option maxRecDepth 20000 in
theorem gX11_askedFit_X11_meets : GoodIn wsX11_askedFit (wsV RX11 190 RX11 yX11_meets wsX11_meets) := goodIn_app (goodIn_of _ (by decide +kernel)) ggX11_askedFit_X11_meets
set_option maxRecDepth 20000 in
theorem ggX11_askedFit_X11_isCell : GoodIn wsX11_askedFit wsX11_isCell := goodIn_r _ [19, 20, 21, 22, 5, 23, 24, 25, 7, 8, 9, 31, 32, 33, 34, 35, 36, 37, 38, 39, 40, 41, 42, 43, 44, 45, 46, 47, 48, 49, 50, 51, 52, 53, 54, 55, 56, 57, 58, 59, 60, 61, 62, 63, 64, 65, 66, 67, 68, 69, 70, 71, 72, 73, 74, 75, 76, 77, 78, 79, 80, 81, 82, 83, 84, 85, 86, 87, 88, 89, 90, 91, 92, 93, 94, 95, 96] (by decide +kernel) (by decide +kernel)
set_option maxRecDepth 20000 in
theorem gX11_askedFit_X11_isCell : GoodIn wsX11_askedFit (wsV RX11 226 RX11 yX11_isCell wsX11_isCell) := goodIn_app (goodIn_of _ (by decide +kernel)) ggX11_askedFit_X11_isCell
set_option maxRecDepth 20000 in
theorem ggX11_askedFit_X11_countOf : GoodIn wsX11_askedFit wsX11_countOf := goodIn_r _ [29, 2, 30, 31, 32, 33, 34, 35, 36, 37, 38, 39, 40, 41, 42, 43, 44, 45, 46, 47, 48, 49, 50, 51, 52, 53, 54, 55, 56, 57, 58, 59, 60, 61, 62, 63, 64, 65, 66, 67, 68, 69, 70, 71, 72, 73, 74, 75, 76, 77, 78, 79, 80, 81, 82, 83, 84, 85, 86, 87, 88, 89, 90, 91, 92, 93, 94, 95, 96] (by decide +kernel) (by decide +kernel)
set_option maxRecDepth 20000 in
theorem gX11_askedFit_X11_countOf : GoodIn wsX11_askedFit (wsV RX11 199 RX11 yX11_countOf wsX11_countOf) := goodIn_app (goodIn_of _ (by decide +kernel)) ggX11_askedFit_X11_countOf
theorem dX11_askedFit_0 : decode cX11_askedFit 0 = .ok (.iload_n 1, 1) := by decide +kernel
theorem dX11_askedFit_1 : decode cX11_askedFit 1 = .ok (.invokestatic 186, 3) := by decide +kernel
theorem dX11_askedFit_4 : decode cX11_askedFit 4 = .ok (.ifCond .eq 10, 3) := by decide +kernel
theorem dX11_askedFit_7 : decode cX11_askedFit 7 = .ok (.iload_n 3, 1) := by decide +kernel
theorem dX11_askedFit_8 : decode cX11_askedFit 8 = .ok (.invokestatic 186, 3) := by decide +kernel
theorem dX11_askedFit_11 : decode cX11_askedFit 11 = .ok (.ifCond .ne 5, 3) := by decide +kernel
theorem dX11_askedFit_14 : decode cX11_askedFit 14 = .ok (.iconst (-1), 1) := by decide +kernel
theorem dX11_askedFit_15 : decode cX11_askedFit 15 = .ok (.ireturn, 1) := by decide +kernel
theorem dX11_askedFit_16 : decode cX11_askedFit 16 = .ok (.aload_n 0, 1) := by decide +kernel
theorem dX11_askedFit_17 : decode cX11_askedFit 17 = .ok (.getfield 38, 3) := by decide +kernel
theorem dX11_askedFit_20 : decode cX11_askedFit 20 = .ok (.iload_n 1, 1) := by decide +kernel
theorem dX11_askedFit_21 : decode cX11_askedFit 21 = .ok (.iaload, 1) := by decide +kernel
theorem dX11_askedFit_22 : decode cX11_askedFit 22 = .ok (.ifCond .lt 12, 3) := by decide +kernel
theorem dX11_askedFit_25 : decode cX11_askedFit 25 = .ok (.aload_n 0, 1) := by decide +kernel
theorem dX11_askedFit_26 : decode cX11_askedFit 26 = .ok (.getfield 17, 3) := by decide +kernel
theorem dX11_askedFit_29 : decode cX11_askedFit 29 = .ok (.iload_n 3, 1) := by decide +kernel
theorem dX11_askedFit_30 : decode cX11_askedFit 30 = .ok (.iaload, 1) := by decide +kernel
theorem dX11_askedFit_31 : decode cX11_askedFit 31 = .ok (.ifCond .ge 9, 3) := by decide +kernel
theorem dX11_askedFit_34 : decode cX11_askedFit 34 = .ok (.aload_n 0, 1) := by decide +kernel
theorem dX11_askedFit_35 : decode cX11_askedFit 35 = .ok (.iconst 1, 1) := by decide +kernel
theorem dX11_askedFit_36 : decode cX11_askedFit 36 = .ok (.invokevirtual 190, 3) := by decide +kernel
theorem dX11_askedFit_39 : decode cX11_askedFit 39 = .ok (.ireturn, 1) := by decide +kernel
theorem dX11_askedFit_40 : decode cX11_askedFit 40 = .ok (.aload_n 0, 1) := by decide +kernel
theorem dX11_askedFit_41 : decode cX11_askedFit 41 = .ok (.iload_n 1, 1) := by decide +kernel
theorem dX11_askedFit_42 : decode cX11_askedFit 42 = .ok (.iload_n 2, 1) := by decide +kernel
theorem dX11_askedFit_43 : decode cX11_askedFit 43 = .ok (.invokevirtual 226, 3) := by decide +kernel
theorem dX11_askedFit_46 : decode cX11_askedFit 46 = .ok (.ifCond .ne 11, 3) := by decide +kernel
theorem dX11_askedFit_49 : decode cX11_askedFit 49 = .ok (.aload_n 0, 1) := by decide +kernel
theorem dX11_askedFit_50 : decode cX11_askedFit 50 = .ok (.iconst 2, 1) := by decide +kernel
theorem dX11_askedFit_51 : decode cX11_askedFit 51 = .ok (.invokevirtual 190, 3) := by decide +kernel
theorem dX11_askedFit_54 : decode cX11_askedFit 54 = .ok (.goto 20, 3) := by decide +kernel
theorem dX11_askedFit_57 : decode cX11_askedFit 57 = .ok (.aload_n 0, 1) := by decide +kernel
theorem dX11_askedFit_58 : decode cX11_askedFit 58 = .ok (.iload_n 3, 1) := by decide +kernel
theorem dX11_askedFit_59 : decode cX11_askedFit 59 = .ok (.invokevirtual 199, 3) := by decide +kernel
theorem dX11_askedFit_62 : decode cX11_askedFit 62 = .ok (.ifCond .ne 11, 3) := by decide +kernel
theorem dX11_askedFit_65 : decode cX11_askedFit 65 = .ok (.aload_n 0, 1) := by decide +kernel
theorem dX11_askedFit_66 : decode cX11_askedFit 66 = .ok (.iconst 4, 1) := by decide +kernel
theorem dX11_askedFit_67 : decode cX11_askedFit 67 = .ok (.invokevirtual 190, 3) := by decide +kernel
theorem dX11_askedFit_70 : decode cX11_askedFit 70 = .ok (.goto 4, 3) := by decide +kernel
theorem dX11_askedFit_73 : decode cX11_askedFit 73 = .ok (.iconst 0, 1) := by decide +kernel
theorem dX11_askedFit_74 : decode cX11_askedFit 74 = .ok (.ireturn, 1) := by decide +kernel
theorem dX11_bestPull_0 : decode cX11_bestPull 0 = .ok (.bipush (-9), 2) := by decide +kernel
theorem dX11_bestPull_2 : decode cX11_bestPull 2 = .ok (.istore_n 1, 1) := by decide +kernel
theorem dX11_bestPull_3 : decode cX11_bestPull 3 = .ok (.iconst 1, 1) := by decide +kernel
theorem dX11_bestPull_4 : decode cX11_bestPull 4 = .ok (.istore_n 2, 1) := by decide +kernel
theorem dX11_bestPull_5 : decode cX11_bestPull 5 = .ok (.iload_n 2, 1) := by decide +kernel
theorem dX11_bestPull_6 : decode cX11_bestPull 6 = .ok (.bipush 9, 2) := by decide +kernel
theorem dX11_bestPull_8 : decode cX11_bestPull 8 = .ok (.if_icmp .ge 46, 3) := by decide +kernel
theorem dX11_bestPull_11 : decode cX11_bestPull 11 = .ok (.aload_n 0, 1) := by decide +kernel
theorem dX11_bestPull_12 : decode cX11_bestPull 12 = .ok (.getfield 159, 3) := by decide +kernel
theorem dX11_bestPull_15 : decode cX11_bestPull 15 = .ok (.iload_n 2, 1) := by decide +kernel
theorem dX11_bestPull_16 : decode cX11_bestPull 16 = .ok (.laload, 1) := by decide +kernel
theorem dX11_bestPull_17 : decode cX11_bestPull 17 = .ok (.lconst 0, 1) := by decide +kernel
theorem dX11_bestPull_18 : decode cX11_bestPull 18 = .ok (.lcmp, 1) := by decide +kernel
theorem dX11_bestPull_19 : decode cX11_bestPull 19 = .ok (.ifCond .lt 27, 3) := by decide +kernel
theorem dX11_bestPull_22 : decode cX11_bestPull 22 = .ok (.iload_n 1, 1) := by decide +kernel
theorem dX11_bestPull_23 : decode cX11_bestPull 23 = .ok (.ifCond .lt 19, 3) := by decide +kernel
theorem dX11_bestPull_26 : decode cX11_bestPull 26 = .ok (.aload_n 0, 1) := by decide +kernel
theorem dX11_bestPull_27 : decode cX11_bestPull 27 = .ok (.getfield 159, 3) := by decide +kernel
theorem dX11_bestPull_30 : decode cX11_bestPull 30 = .ok (.iload_n 2, 1) := by decide +kernel
theorem dX11_bestPull_31 : decode cX11_bestPull 31 = .ok (.laload, 1) := by decide +kernel
theorem dX11_bestPull_32 : decode cX11_bestPull 32 = .ok (.aload_n 0, 1) := by decide +kernel
theorem dX11_bestPull_33 : decode cX11_bestPull 33 = .ok (.getfield 159, 3) := by decide +kernel
theorem dX11_bestPull_36 : decode cX11_bestPull 36 = .ok (.iload_n 1, 1) := by decide +kernel
theorem dX11_bestPull_37 : decode cX11_bestPull 37 = .ok (.laload, 1) := by decide +kernel
theorem dX11_bestPull_38 : decode cX11_bestPull 38 = .ok (.lcmp, 1) := by decide +kernel
theorem dX11_bestPull_39 : decode cX11_bestPull 39 = .ok (.ifCond .ge 7, 3) := by decide +kernel
theorem dX11_bestPull_42 : decode cX11_bestPull 42 = .ok (.iload_n 2, 1) := by decide +kernel
theorem dX11_bestPull_43 : decode cX11_bestPull 43 = .ok (.goto 4, 3) := by decide +kernel
theorem dX11_bestPull_46 : decode cX11_bestPull 46 = .ok (.iload_n 1, 1) := by decide +kernel
theorem dX11_bestPull_47 : decode cX11_bestPull 47 = .ok (.istore_n 1, 1) := by decide +kernel
theorem dX11_bestPull_48 : decode cX11_bestPull 48 = .ok (.iinc 2 1, 3) := by decide +kernel
theorem dX11_bestPull_51 : decode cX11_bestPull 51 = .ok (.goto (-46), 3) := by decide +kernel
theorem dX11_bestPull_54 : decode cX11_bestPull 54 = .ok (.iload_n 1, 1) := by decide +kernel
theorem dX11_bestPull_55 : decode cX11_bestPull 55 = .ok (.ireturn, 1) := by decide +kernel
set_option maxRecDepth 20000 in
theorem ggX11_fit_X11_askedFit : GoodIn wsX11_fit wsX11_askedFit := goodIn_r _ [6, 7, 8, 9, 10, 5, 11, 12, 13, 14, 15, 16, 17, 18, 19, 20, 21, 22, 23, 24, 25, 26, 27, 28, 29, 30, 31, 32, 33, 34, 35, 144, 145, 146, 147, 148, 149, 150, 151, 152, 153, 154, 155, 156, 157, 158, 159, 160, 161, 162, 163, 164, 165, 166, 167, 168, 169, 170, 171, 172, 173, 174, 175, 176, 177, 178, 179, 180, 181, 182, 183, 184, 185, 186, 187, 188, 189, 190, 191, 192, 193, 194, 195, 196, 197, 198, 199, 200, 201, 202, 203, 204, 205, 206, 207, 208, 209] (by decide +kernel) (by decide +kernel)
set_option maxRecDepth 20000 in
theorem gX11_fit_X11_askedFit : GoodIn wsX11_fit (wsV RX11 348 RX11 yX11_askedFit wsX11_askedFit) := goodIn_app (goodIn_of _ (by decide +kernel)) ggX11_fit_X11_askedFit
set_option maxRecDepth 20000 in
theorem ggX11_fit_X11_tryPulls : GoodIn wsX11_fit wsX11_tryPulls := goodIn_r _ [39, 40, 8, 35, 41, 42, 1, 7, 43, 44, 45, 5, 46, 29, 30, 47, 48, 49, 50, 51, 52, 53, 54, 55, 56, 57, 58, 59, 60, 61, 62, 63, 64, 65, 66, 67, 68, 69, 70, 71, 72, 73, 74, 75, 76, 77, 78, 79, 80, 81, 82, 83, 84, 85, 86, 87, 25, 26, 27, 28, 88, 89, 90, 91, 21, 22, 23, 24, 12, 13, 14, 92, 93, 94, 95, 96, 97, 98, 99, 100, 101, 102, 103, 104, 105, 106, 107, 108, 109, 110, 111, 112, 113, 114, 115, 116, 117, 118, 119, 120, 121, 122, 123, 124, 125, 126, 127, 128, 129, 130, 131, 132, 133, 134, 144, 145, 146, 147, 148, 149, 150, 151, 152, 153, 154, 155, 156, 157, 158, 159, 160, 161, 162, 163, 164, 165, 166, 167, 168, 169, 170, 171, 172, 173, 174, 175, 176, 177, 178, 179, 180, 181, 182, 183, 184, 185, 186, 187, 188, 189, 190, 191, 192, 193, 194, 195, 196, 197, 198, 199, 200, 201, 202, 203, 204, 205, 206, 207, 208, 209] (by decide +kernel) (by decide +kernel)
set_option maxRecDepth 20000 in
theorem gX11_fit_X11_tryPulls : GoodIn wsX11_fit (wsV RX11 351 RX11 yX11_tryPulls wsX11_tryPulls) := goodIn_app (goodIn_of _ (by decide +kernel)) ggX11_fit_X11_tryPulls
set_option maxRecDepth 20000 in
theorem ggX11_fit_X11_bestPull : GoodIn wsX11_fit wsX11_bestPull := goodIn_r _ [138, 1, 144, 145, 146, 147, 148, 149, 150, 151, 152, 153, 154, 155, 156, 157, 158, 159, 160, 161, 162, 163, 164, 165, 166, 167, 168, 169, 170, 171, 172, 173, 174, 175, 176, 177, 178, 179, 180, 181, 182, 183, 184, 185, 186, 187, 188, 189, 190, 191, 192, 193, 194, 195, 196, 197, 198, 199, 200, 201, 202, 203, 204, 205, 206, 207, 208, 209] (by decide +kernel) (by decide +kernel)
set_option maxRecDepth 20000 in
theorem gX11_fit_X11_bestPull : GoodIn wsX11_fit (wsV RX11 355 RX11 yX11_bestPull wsX11_bestPull) := goodIn_app (goodIn_of _ (by decide +kernel)) ggX11_fit_X11_bestPull
set_option maxRecDepth 20000 in
theorem ggX11_fit_X11_ask : GoodIn wsX11_fit wsX11_ask := goodIn_r _ [142, 143, 144, 145, 146, 147, 148, 149, 150, 151, 152, 153, 154, 155, 156, 157, 158, 159, 160, 161, 162, 163, 164, 165, 166, 167, 168, 169, 170, 171, 172, 173, 174, 175, 176, 177, 178, 179, 180, 181, 182, 183, 184, 185, 186, 187, 188, 189, 190, 191, 192, 193, 194, 195, 196, 197, 198, 199, 200, 201, 202, 203, 204, 205, 206, 207, 208, 209] (by decide +kernel) (by decide +kernel)
set_option maxRecDepth 20000 in
theorem gX11_fit_X11_ask : GoodIn wsX11_fit (wsV RX11 202 RX11 yX11_ask wsX11_ask) := goodIn_app (goodIn_of _ (by decide +kernel)) ggX11_fit_X11_ask
theorem dX11_fit_0 : decode cX11_fit 0 = .ok (.aload_n 0, 1) := by decide +kernel
theorem dX11_fit_1 : decode cX11_fit 1 = .ok (.iload_n 1, 1) := by decide +kernel
theorem dX11_fit_2 : decode cX11_fit 2 = .ok (.iload_n 2, 1) := by decide +kernel
theorem dX11_fit_3 : decode cX11_fit 3 = .ok (.iload_n 3, 1) := by decide +kernel
theorem dX11_fit_4 : decode cX11_fit 4 = .ok (.invokevirtual 348, 3) := by decide +kernel
theorem dX11_fit_7 : decode cX11_fit 7 = .ok (.istore 4, 2) := by decide +kernel
theorem dX11_fit_9 : decode cX11_fit 9 = .ok (.iload 4, 2) := by decide +kernel
theorem dX11_fit_11 : decode cX11_fit 11 = .ok (.ifCond .ge 6, 3) := by decide +kernel
theorem dX11_fit_14 : decode cX11_fit 14 = .ok (.iload 4, 2) := by decide +kernel
theorem dX11_fit_16 : decode cX11_fit 16 = .ok (.ireturn, 1) := by decide +kernel
theorem dX11_fit_17 : decode cX11_fit 17 = .ok (.aload_n 0, 1) := by decide +kernel
theorem dX11_fit_18 : decode cX11_fit 18 = .ok (.iload_n 1, 1) := by decide +kernel
theorem dX11_fit_19 : decode cX11_fit 19 = .ok (.iload_n 2, 1) := by decide +kernel
theorem dX11_fit_20 : decode cX11_fit 20 = .ok (.iload_n 3, 1) := by decide +kernel
theorem dX11_fit_21 : decode cX11_fit 21 = .ok (.invokevirtual 351, 3) := by decide +kernel
theorem dX11_fit_24 : decode cX11_fit 24 = .ok (.aload_n 0, 1) := by decide +kernel
theorem dX11_fit_25 : decode cX11_fit 25 = .ok (.invokevirtual 355, 3) := by decide +kernel
theorem dX11_fit_28 : decode cX11_fit 28 = .ok (.istore 5, 2) := by decide +kernel
theorem dX11_fit_30 : decode cX11_fit 30 = .ok (.iload 5, 2) := by decide +kernel
theorem dX11_fit_32 : decode cX11_fit 32 = .ok (.ifCond .ge 8, 3) := by decide +kernel
theorem dX11_fit_35 : decode cX11_fit 35 = .ok (.bipush (-9), 2) := by decide +kernel
theorem dX11_fit_37 : decode cX11_fit 37 = .ok (.goto 17, 3) := by decide +kernel
theorem dX11_fit_40 : decode cX11_fit 40 = .ok (.aload_n 0, 1) := by decide +kernel
theorem dX11_fit_41 : decode cX11_fit 41 = .ok (.aload_n 0, 1) := by decide +kernel
theorem dX11_fit_42 : decode cX11_fit 42 = .ok (.getfield 159, 3) := by decide +kernel
theorem dX11_fit_45 : decode cX11_fit 45 = .ok (.iload 5, 2) := by decide +kernel
theorem dX11_fit_47 : decode cX11_fit 47 = .ok (.laload, 1) := by decide +kernel
theorem dX11_fit_48 : decode cX11_fit 48 = .ok (.l2i, 1) := by decide +kernel
theorem dX11_fit_49 : decode cX11_fit 49 = .ok (.iload 5, 2) := by decide +kernel
theorem dX11_fit_51 : decode cX11_fit 51 = .ok (.invokevirtual 202, 3) := by decide +kernel
theorem dX11_fit_54 : decode cX11_fit 54 = .ok (.ireturn, 1) := by decide +kernel
set_option maxRecDepth 20000 in
theorem ggX11_ends_X11_in : GoodIn wsX11_ends wsX11_in := goodIn_r _ [6] (by decide +kernel) (by decide +kernel)
set_option maxRecDepth 20000 in
theorem gX11_ends_X11_in : GoodIn wsX11_ends (va_wsS RX11 182 yX11_in wsX11_in) := goodIn_app (goodIn_of _ (by decide +kernel)) ggX11_ends_X11_in
set_option maxRecDepth 20000 in
theorem ggX11_ends_X11_askedFit : GoodIn wsX11_ends wsX11_askedFit := goodIn_r _ [10, 11, 12, 13, 14, 5, 15, 3, 4, 6, 16, 17, 18, 19, 20, 21, 22, 23, 24, 25, 26, 27, 28, 29, 30, 31, 32, 33, 34, 35, 36, 139, 140, 141, 142, 143, 144, 145, 146, 147, 148, 149, 150, 151, 152, 153, 154, 155, 156, 157, 158, 159, 160, 161, 162, 163, 164, 165, 166, 167, 168, 169, 170, 171, 172, 173, 174, 175, 176, 177, 178, 179, 180, 181, 182, 183, 184, 185, 186, 187, 188, 189, 190, 191, 192, 193, 194, 195, 196, 197, 198, 199, 200, 201, 202, 203, 204] (by decide +kernel) (by decide +kernel)
set_option maxRecDepth 20000 in
theorem gX11_ends_X11_askedFit : GoodIn wsX11_ends (wsV RX11 348 RX11 yX11_askedFit wsX11_askedFit) := goodIn_app (goodIn_of _ (by decide +kernel)) ggX11_ends_X11_askedFit
set_option maxRecDepth 20000 in
theorem ggX11_ends_X11_tryPulls : GoodIn wsX11_ends wsX11_tryPulls := goodIn_r _ [40, 41, 12, 36, 42, 43, 2, 11, 44, 45, 46, 5, 47, 30, 31, 48, 49, 50, 51, 52, 53, 54, 55, 56, 57, 58, 59, 60, 61, 62, 63, 64, 65, 66, 67, 68, 69, 70, 71, 72, 73, 74, 75, 1, 76, 77, 78, 79, 80, 81, 82, 83, 84, 85, 86, 87, 26, 27, 28, 29, 88, 89, 90, 91, 22, 23, 24, 25, 3, 4, 6, 92, 93, 94, 95, 96, 97, 98, 99, 100, 101, 102, 103, 104, 105, 106, 107, 108, 109, 110, 111, 112, 113, 114, 115, 116, 117, 118, 119, 120, 121, 122, 123, 124, 125, 126, 127, 128, 129, 130, 131, 132, 133, 134, 139, 140, 141, 142, 143, 144, 145, 146, 147, 148, 149, 150, 151, 152, 153, 154, 155, 156, 157, 158, 159, 160, 161, 162, 163, 164, 165, 166, 167, 168, 169, 170, 171, 172, 173, 174, 175, 176, 177, 178, 179, 180, 181, 182, 183, 184, 185, 186, 187, 188, 189, 190, 191, 192, 193, 194, 195, 196, 197, 198, 199, 200, 201, 202, 203, 204] (by decide +kernel) (by decide +kernel)
set_option maxRecDepth 20000 in
theorem gX11_ends_X11_tryPulls : GoodIn wsX11_ends (wsV RX11 351 RX11 yX11_tryPulls wsX11_tryPulls) := goodIn_app (goodIn_of _ (by decide +kernel)) ggX11_ends_X11_tryPulls
set_option maxRecDepth 20000 in
theorem ggX11_ends_X11_bestPull : GoodIn wsX11_ends wsX11_bestPull := goodIn_r _ [138, 2, 139, 140, 141, 142, 143, 144, 145, 146, 147, 148, 149, 150, 151, 152, 153, 154, 155, 156, 157, 158, 159, 160, 161, 162, 163, 164, 165, 166, 167, 168, 169, 170, 171, 172, 173, 174, 175, 176, 177, 178, 179, 180, 181, 182, 183, 184, 185, 186, 187, 188, 189, 190, 191, 192, 193, 194, 195, 196, 197, 198, 199, 200, 201, 202, 203, 204] (by decide +kernel) (by decide +kernel)
set_option maxRecDepth 20000 in
theorem gX11_ends_X11_bestPull : GoodIn wsX11_ends (wsV RX11 355 RX11 yX11_bestPull wsX11_bestPull) := goodIn_app (goodIn_of _ (by decide +kernel)) ggX11_ends_X11_bestPull
theorem dX11_ends_0 : decode cX11_ends 0 = .ok (.iload 4, 2) := by decide +kernel
theorem dX11_ends_2 : decode cX11_ends 2 = .ok (.iconst 0, 1) := by decide +kernel
theorem dX11_ends_3 : decode cX11_ends 3 = .ok (.ldc 195, 2) := by decide +kernel
theorem dX11_ends_5 : decode cX11_ends 5 = .ok (.invokestatic 182, 3) := by decide +kernel
theorem dX11_ends_8 : decode cX11_ends 8 = .ok (.ifCond .ne 5, 3) := by decide +kernel
theorem dX11_ends_11 : decode cX11_ends 11 = .ok (.iconst (-1), 1) := by decide +kernel
theorem dX11_ends_12 : decode cX11_ends 12 = .ok (.ireturn, 1) := by decide +kernel
theorem dX11_ends_13 : decode cX11_ends 13 = .ok (.aload_n 0, 1) := by decide +kernel
theorem dX11_ends_14 : decode cX11_ends 14 = .ok (.iload_n 1, 1) := by decide +kernel
theorem dX11_ends_15 : decode cX11_ends 15 = .ok (.iload_n 2, 1) := by decide +kernel
theorem dX11_ends_16 : decode cX11_ends 16 = .ok (.iload_n 3, 1) := by decide +kernel
theorem dX11_ends_17 : decode cX11_ends 17 = .ok (.invokevirtual 348, 3) := by decide +kernel
theorem dX11_ends_20 : decode cX11_ends 20 = .ok (.istore 5, 2) := by decide +kernel
theorem dX11_ends_22 : decode cX11_ends 22 = .ok (.iload 5, 2) := by decide +kernel
theorem dX11_ends_24 : decode cX11_ends 24 = .ok (.ifCond .ge 6, 3) := by decide +kernel
theorem dX11_ends_27 : decode cX11_ends 27 = .ok (.iload 5, 2) := by decide +kernel
theorem dX11_ends_29 : decode cX11_ends 29 = .ok (.ireturn, 1) := by decide +kernel
theorem dX11_ends_30 : decode cX11_ends 30 = .ok (.aload_n 0, 1) := by decide +kernel
theorem dX11_ends_31 : decode cX11_ends 31 = .ok (.iload_n 1, 1) := by decide +kernel
theorem dX11_ends_32 : decode cX11_ends 32 = .ok (.iload_n 2, 1) := by decide +kernel
theorem dX11_ends_33 : decode cX11_ends 33 = .ok (.iload_n 3, 1) := by decide +kernel
theorem dX11_ends_34 : decode cX11_ends 34 = .ok (.invokevirtual 351, 3) := by decide +kernel
theorem dX11_ends_37 : decode cX11_ends 37 = .ok (.aload_n 0, 1) := by decide +kernel
theorem dX11_ends_38 : decode cX11_ends 38 = .ok (.invokevirtual 355, 3) := by decide +kernel
theorem dX11_ends_41 : decode cX11_ends 41 = .ok (.istore 6, 2) := by decide +kernel
theorem dX11_ends_43 : decode cX11_ends 43 = .ok (.iload 6, 2) := by decide +kernel
theorem dX11_ends_45 : decode cX11_ends 45 = .ok (.ifCond .ge 6, 3) := by decide +kernel
theorem dX11_ends_48 : decode cX11_ends 48 = .ok (.bipush (-9), 2) := by decide +kernel
theorem dX11_ends_50 : decode cX11_ends 50 = .ok (.ireturn, 1) := by decide +kernel
theorem dX11_ends_51 : decode cX11_ends 51 = .ok (.iconst 0, 1) := by decide +kernel
theorem dX11_ends_52 : decode cX11_ends 52 = .ok (.istore 7, 2) := by decide +kernel
theorem dX11_ends_54 : decode cX11_ends 54 = .ok (.iconst 0, 1) := by decide +kernel
theorem dX11_ends_55 : decode cX11_ends 55 = .ok (.istore 8, 2) := by decide +kernel
theorem dX11_ends_57 : decode cX11_ends 57 = .ok (.iconst 1, 1) := by decide +kernel
theorem dX11_ends_58 : decode cX11_ends 58 = .ok (.istore 9, 2) := by decide +kernel
theorem dX11_ends_60 : decode cX11_ends 60 = .ok (.iload 9, 2) := by decide +kernel
theorem dX11_ends_62 : decode cX11_ends 62 = .ok (.bipush 9, 2) := by decide +kernel
theorem dX11_ends_64 : decode cX11_ends 64 = .ok (.if_icmp .ge 61, 3) := by decide +kernel
theorem dX11_ends_67 : decode cX11_ends 67 = .ok (.aload_n 0, 1) := by decide +kernel
theorem dX11_ends_68 : decode cX11_ends 68 = .ok (.getfield 159, 3) := by decide +kernel
theorem dX11_ends_71 : decode cX11_ends 71 = .ok (.iload 9, 2) := by decide +kernel
theorem dX11_ends_73 : decode cX11_ends 73 = .ok (.laload, 1) := by decide +kernel
theorem dX11_ends_74 : decode cX11_ends 74 = .ok (.lconst 0, 1) := by decide +kernel
theorem dX11_ends_75 : decode cX11_ends 75 = .ok (.lcmp, 1) := by decide +kernel
theorem dX11_ends_76 : decode cX11_ends 76 = .ok (.ifCond .lt 43, 3) := by decide +kernel
theorem dX11_ends_79 : decode cX11_ends 79 = .ok (.aload_n 0, 1) := by decide +kernel
theorem dX11_ends_80 : decode cX11_ends 80 = .ok (.getfield 159, 3) := by decide +kernel
theorem dX11_ends_83 : decode cX11_ends 83 = .ok (.iload 9, 2) := by decide +kernel
theorem dX11_ends_85 : decode cX11_ends 85 = .ok (.laload, 1) := by decide +kernel
theorem dX11_ends_86 : decode cX11_ends 86 = .ok (.aload_n 0, 1) := by decide +kernel
theorem dX11_ends_87 : decode cX11_ends 87 = .ok (.getfield 159, 3) := by decide +kernel
theorem dX11_ends_90 : decode cX11_ends 90 = .ok (.iload 6, 2) := by decide +kernel
theorem dX11_ends_92 : decode cX11_ends 92 = .ok (.laload, 1) := by decide +kernel
theorem dX11_ends_93 : decode cX11_ends 93 = .ok (.iload 4, 2) := by decide +kernel
theorem dX11_ends_95 : decode cX11_ends 95 = .ok (.i2l, 1) := by decide +kernel
theorem dX11_ends_96 : decode cX11_ends 96 = .ok (.ladd, 1) := by decide +kernel
theorem dX11_ends_97 : decode cX11_ends 97 = .ok (.lcmp, 1) := by decide +kernel
theorem dX11_ends_98 : decode cX11_ends 98 = .ok (.ifCond .gt 21, 3) := by decide +kernel
theorem dX11_ends_101 : decode cX11_ends 101 = .ok (.iload 7, 2) := by decide +kernel
theorem dX11_ends_103 : decode cX11_ends 103 = .ok (.ifCond .ne 8, 3) := by decide +kernel
theorem dX11_ends_106 : decode cX11_ends 106 = .ok (.iload 9, 2) := by decide +kernel
theorem dX11_ends_108 : decode cX11_ends 108 = .ok (.goto 5, 3) := by decide +kernel
theorem dX11_ends_111 : decode cX11_ends 111 = .ok (.iload 7, 2) := by decide +kernel
theorem dX11_ends_113 : decode cX11_ends 113 = .ok (.istore 7, 2) := by decide +kernel
theorem dX11_ends_115 : decode cX11_ends 115 = .ok (.iload 9, 2) := by decide +kernel
theorem dX11_ends_117 : decode cX11_ends 117 = .ok (.istore 8, 2) := by decide +kernel
theorem dX11_ends_119 : decode cX11_ends 119 = .ok (.iinc 9 1, 3) := by decide +kernel
theorem dX11_ends_122 : decode cX11_ends 122 = .ok (.goto (-62), 3) := by decide +kernel
theorem dX11_ends_125 : decode cX11_ends 125 = .ok (.bipush 10, 2) := by decide +kernel
theorem dX11_ends_127 : decode cX11_ends 127 = .ok (.iload 7, 2) := by decide +kernel
theorem dX11_ends_129 : decode cX11_ends 129 = .ok (.imul, 1) := by decide +kernel
theorem dX11_ends_130 : decode cX11_ends 130 = .ok (.iload 8, 2) := by decide +kernel
theorem dX11_ends_132 : decode cX11_ends 132 = .ok (.iadd, 1) := by decide +kernel
theorem dX11_ends_133 : decode cX11_ends 133 = .ok (.ireturn, 1) := by decide +kernel
set_option maxRecDepth 20000 in
theorem ggX11_plays_X11_turnGate : GoodIn wsX11_plays wsX11_turnGate := goodIn_r _ [15, 16, 17, 18, 19, 14, 20, 21, 22, 23, 24, 25, 26, 27, 28, 29, 30, 31, 32, 33, 108, 109, 110, 111, 112, 113, 114, 115, 116, 117, 118, 119, 120, 121, 122, 123, 124, 125, 126, 127, 128, 129, 130, 131, 132, 133, 134, 135, 136, 137, 138, 139, 140, 141, 142, 143, 144, 145, 146, 147, 148, 149, 150, 151, 152, 153, 154, 155, 156, 157, 158, 159, 160, 161, 162, 163, 164, 165, 166, 167, 168, 169, 170, 171, 172, 173] (by decide +kernel) (by decide +kernel)
set_option maxRecDepth 20000 in
theorem gX11_plays_X11_turnGate : GoodIn wsX11_plays (wsV RX11 362 RX11 yX11_turnGate wsX11_turnGate) := goodIn_app (goodIn_of _ (by decide +kernel)) ggX11_plays_X11_turnGate
set_option maxRecDepth 20000 in
theorem ggX11_plays_X11_isTidal : GoodIn wsX11_plays wsX11_isTidal := goodIn_r _ [37, 38, 108, 109, 110, 111, 112, 113, 114, 115, 116, 117, 118, 119, 120, 121, 122, 123, 124, 125, 126, 127, 128, 129, 130, 131, 132, 133, 134, 135, 136, 137, 138, 139, 140, 141, 142, 143, 144, 145, 146, 147, 148, 149, 150, 151, 152, 153, 154, 155, 156, 157, 158, 159, 160, 161, 162, 163, 164, 165, 166, 167, 168, 169, 170, 171, 172, 173] (by decide +kernel) (by decide +kernel)
set_option maxRecDepth 20000 in
theorem gX11_plays_X11_isTidal : GoodIn wsX11_plays (wsV RX11 252 RX11 yX11_isTidal wsX11_isTidal) := goodIn_app (goodIn_of _ (by decide +kernel)) ggX11_plays_X11_isTidal
set_option maxRecDepth 20000 in
theorem ggX11_plays_X11_stepOnce : GoodIn wsX11_plays wsX11_stepOnce := goodIn_r _ [42, 9, 43, 44, 10, 45, 46, 47, 48, 49, 50, 51, 52, 53, 54, 55, 56, 57, 58, 59, 60, 14, 61, 62, 26, 27, 28, 29, 21, 30, 17, 18, 19, 20, 22, 23, 24, 25, 31, 32, 33, 63, 64, 65, 66, 16, 8, 38, 5, 6, 67, 68, 69, 70, 71, 72, 73, 74, 75, 76, 77, 78, 79, 80, 81, 82, 34, 35, 36, 37, 83, 84, 85, 86, 87, 88, 89, 90, 91, 92, 7, 93, 94, 95, 96, 97, 98, 99, 100, 101, 102, 103, 104, 105, 106, 107, 108, 109, 110, 111, 112, 113, 114, 115, 116, 117, 118, 119, 120, 121, 122, 123, 124, 125, 126, 127, 128, 129, 130, 131, 132, 133, 134, 135, 136, 137, 138, 139, 140, 141, 142, 143, 144, 145, 146, 147, 148, 149, 150, 151, 152, 153, 154, 155, 156, 157, 158, 159, 160, 161, 162, 163, 164, 165, 166, 167, 168, 169, 170, 171, 172, 173] (by decide +kernel) (by decide +kernel)
set_option maxRecDepth 20000 in
theorem gX11_plays_X11_stepOnce : GoodIn wsX11_plays (wsV RX11 284 RX11 yX11_stepOnce wsX11_stepOnce) := goodIn_app (goodIn_of _ (by decide +kernel)) ggX11_plays_X11_stepOnce
set_option maxRecDepth 20000 in
theorem ggX11_plays_X11_level : GoodIn wsX11_plays wsX11_level := goodIn_r _ [72, 68, 49, 108, 109, 110, 111, 112, 113, 114, 115, 116, 117, 118, 119, 120, 121, 122, 123, 124, 125, 126, 127, 128, 129, 130, 131, 132, 133, 134, 135, 136, 137, 138, 139, 140, 141, 142, 143, 144, 145, 146, 147, 148, 149, 150, 151, 152, 153, 154, 155, 156, 157, 158, 159, 160, 161, 162, 163, 164, 165, 166, 167, 168, 169, 170, 171, 172, 173] (by decide +kernel) (by decide +kernel)
set_option maxRecDepth 20000 in
theorem gX11_plays_X11_level : GoodIn wsX11_plays (wsV RX11 243 RX11 yX11_level wsX11_level) := goodIn_app (goodIn_of _ (by decide +kernel)) ggX11_plays_X11_level
theorem dX11_plays_0 : decode cX11_plays 0 = .ok (.iconst 0, 1) := by decide +kernel
theorem dX11_plays_1 : decode cX11_plays 1 = .ok (.istore 4, 2) := by decide +kernel
theorem dX11_plays_3 : decode cX11_plays 3 = .ok (.aload_n 0, 1) := by decide +kernel
theorem dX11_plays_4 : decode cX11_plays 4 = .ok (.iconst 0, 1) := by decide +kernel
theorem dX11_plays_5 : decode cX11_plays 5 = .ok (.putfield 359, 3) := by decide +kernel
theorem dX11_plays_8 : decode cX11_plays 8 = .ok (.iconst 0, 1) := by decide +kernel
theorem dX11_plays_9 : decode cX11_plays 9 = .ok (.istore 5, 2) := by decide +kernel
theorem dX11_plays_11 : decode cX11_plays 11 = .ok (.iload 5, 2) := by decide +kernel
theorem dX11_plays_13 : decode cX11_plays 13 = .ok (.aload_n 0, 1) := by decide +kernel
theorem dX11_plays_14 : decode cX11_plays 14 = .ok (.getfield 209, 3) := by decide +kernel
theorem dX11_plays_17 : decode cX11_plays 17 = .ok (.if_icmp .ge 305, 3) := by decide +kernel
theorem dX11_plays_20 : decode cX11_plays 20 = .ok (.aload_n 0, 1) := by decide +kernel
theorem dX11_plays_21 : decode cX11_plays 21 = .ok (.getfield 35, 3) := by decide +kernel
theorem dX11_plays_24 : decode cX11_plays 24 = .ok (.iload 5, 2) := by decide +kernel
theorem dX11_plays_26 : decode cX11_plays 26 = .ok (.iaload, 1) := by decide +kernel
theorem dX11_plays_27 : decode cX11_plays 27 = .ok (.istore 6, 2) := by decide +kernel
theorem dX11_plays_29 : decode cX11_plays 29 = .ok (.aload_n 0, 1) := by decide +kernel
theorem dX11_plays_30 : decode cX11_plays 30 = .ok (.getfield 32, 3) := by decide +kernel
theorem dX11_plays_33 : decode cX11_plays 33 = .ok (.iload 5, 2) := by decide +kernel
theorem dX11_plays_35 : decode cX11_plays 35 = .ok (.iaload, 1) := by decide +kernel
theorem dX11_plays_36 : decode cX11_plays 36 = .ok (.tableswitch 224 71 87 #[106, 224, 224, 224, 224, 224, 224, 224, 224, 144, 224, 155, 224, 116, 224, 95, 84], 84) := by decide +kernel
theorem dX11_plays_120 : decode cX11_plays 120 = .ok (.aload_n 0, 1) := by decide +kernel
theorem dX11_plays_121 : decode cX11_plays 121 = .ok (.getfield 53, 3) := by decide +kernel
theorem dX11_plays_124 : decode cX11_plays 124 = .ok (.iload_n 1, 1) := by decide +kernel
theorem dX11_plays_125 : decode cX11_plays 125 = .ok (.iload 6, 2) := by decide +kernel
theorem dX11_plays_127 : decode cX11_plays 127 = .ok (.iastore, 1) := by decide +kernel
theorem dX11_plays_128 : decode cX11_plays 128 = .ok (.goto 188, 3) := by decide +kernel
theorem dX11_plays_131 : decode cX11_plays 131 = .ok (.aload_n 0, 1) := by decide +kernel
theorem dX11_plays_132 : decode cX11_plays 132 = .ok (.getfield 56, 3) := by decide +kernel
theorem dX11_plays_135 : decode cX11_plays 135 = .ok (.iload_n 1, 1) := by decide +kernel
theorem dX11_plays_136 : decode cX11_plays 136 = .ok (.iload 6, 2) := by decide +kernel
theorem dX11_plays_138 : decode cX11_plays 138 = .ok (.iastore, 1) := by decide +kernel
theorem dX11_plays_139 : decode cX11_plays 139 = .ok (.goto 177, 3) := by decide +kernel
theorem dX11_plays_142 : decode cX11_plays 142 = .ok (.aload_n 0, 1) := by decide +kernel
theorem dX11_plays_143 : decode cX11_plays 143 = .ok (.iload_n 1, 1) := by decide +kernel
theorem dX11_plays_144 : decode cX11_plays 144 = .ok (.iload 6, 2) := by decide +kernel
theorem dX11_plays_146 : decode cX11_plays 146 = .ok (.invokevirtual 362, 3) := by decide +kernel
theorem dX11_plays_149 : decode cX11_plays 149 = .ok (.goto 167, 3) := by decide +kernel
theorem dX11_plays_152 : decode cX11_plays 152 = .ok (.aload_n 0, 1) := by decide +kernel
theorem dX11_plays_153 : decode cX11_plays 153 = .ok (.getfield 71, 3) := by decide +kernel
theorem dX11_plays_156 : decode cX11_plays 156 = .ok (.iload_n 1, 1) := by decide +kernel
theorem dX11_plays_157 : decode cX11_plays 157 = .ok (.aload_n 0, 1) := by decide +kernel
theorem dX11_plays_158 : decode cX11_plays 158 = .ok (.iload_n 1, 1) := by decide +kernel
theorem dX11_plays_159 : decode cX11_plays 159 = .ok (.invokevirtual 252, 3) := by decide +kernel
theorem dX11_plays_162 : decode cX11_plays 162 = .ok (.ifCond .eq 8, 3) := by decide +kernel
theorem dX11_plays_165 : decode cX11_plays 165 = .ok (.iload 6, 2) := by decide +kernel
theorem dX11_plays_167 : decode cX11_plays 167 = .ok (.goto 9, 3) := by decide +kernel
theorem dX11_plays_170 : decode cX11_plays 170 = .ok (.aload_n 0, 1) := by decide +kernel
theorem dX11_plays_171 : decode cX11_plays 171 = .ok (.getfield 71, 3) := by decide +kernel
theorem dX11_plays_174 : decode cX11_plays 174 = .ok (.iload_n 1, 1) := by decide +kernel
theorem dX11_plays_175 : decode cX11_plays 175 = .ok (.iaload, 1) := by decide +kernel
theorem dX11_plays_176 : decode cX11_plays 176 = .ok (.iastore, 1) := by decide +kernel
theorem dX11_plays_177 : decode cX11_plays 177 = .ok (.goto 139, 3) := by decide +kernel
theorem dX11_plays_180 : decode cX11_plays 180 = .ok (.aload_n 0, 1) := by decide +kernel
theorem dX11_plays_181 : decode cX11_plays 181 = .ok (.getfield 47, 3) := by decide +kernel
theorem dX11_plays_184 : decode cX11_plays 184 = .ok (.iload_n 1, 1) := by decide +kernel
theorem dX11_plays_185 : decode cX11_plays 185 = .ok (.iload 6, 2) := by decide +kernel
theorem dX11_plays_187 : decode cX11_plays 187 = .ok (.iastore, 1) := by decide +kernel
theorem dX11_plays_188 : decode cX11_plays 188 = .ok (.goto 128, 3) := by decide +kernel
theorem dX11_plays_191 : decode cX11_plays 191 = .ok (.iconst 0, 1) := by decide +kernel
theorem dX11_plays_192 : decode cX11_plays 192 = .ok (.istore 7, 2) := by decide +kernel
theorem dX11_plays_194 : decode cX11_plays 194 = .ok (.iload 7, 2) := by decide +kernel
theorem dX11_plays_196 : decode cX11_plays 196 = .ok (.aload_n 0, 1) := by decide +kernel
theorem dX11_plays_197 : decode cX11_plays 197 = .ok (.getfield 74, 3) := by decide +kernel
theorem dX11_plays_200 : decode cX11_plays 200 = .ok (.iload_n 1, 1) := by decide +kernel
theorem dX11_plays_201 : decode cX11_plays 201 = .ok (.iaload, 1) := by decide +kernel
theorem dX11_plays_202 : decode cX11_plays 202 = .ok (.if_icmp .ge 55, 3) := by decide +kernel
theorem dX11_plays_205 : decode cX11_plays 205 = .ok (.aload_n 0, 1) := by decide +kernel
theorem dX11_plays_206 : decode cX11_plays 206 = .ok (.getfield 80, 3) := by decide +kernel
theorem dX11_plays_209 : decode cX11_plays 209 = .ok (.iconst 4, 1) := by decide +kernel
theorem dX11_plays_210 : decode cX11_plays 210 = .ok (.iload_n 1, 1) := by decide +kernel
theorem dX11_plays_211 : decode cX11_plays 211 = .ok (.imul, 1) := by decide +kernel
theorem dX11_plays_212 : decode cX11_plays 212 = .ok (.iload 7, 2) := by decide +kernel
theorem dX11_plays_214 : decode cX11_plays 214 = .ok (.iadd, 1) := by decide +kernel
theorem dX11_plays_215 : decode cX11_plays 215 = .ok (.iaload, 1) := by decide +kernel
theorem dX11_plays_216 : decode cX11_plays 216 = .ok (.iload 6, 2) := by decide +kernel
theorem dX11_plays_218 : decode cX11_plays 218 = .ok (.imul, 1) := by decide +kernel
theorem dX11_plays_219 : decode cX11_plays 219 = .ok (.bipush 100, 2) := by decide +kernel
theorem dX11_plays_221 : decode cX11_plays 221 = .ok (.idiv, 1) := by decide +kernel
theorem dX11_plays_222 : decode cX11_plays 222 = .ok (.istore 8, 2) := by decide +kernel
theorem dX11_plays_224 : decode cX11_plays 224 = .ok (.aload_n 0, 1) := by decide +kernel
theorem dX11_plays_225 : decode cX11_plays 225 = .ok (.getfield 80, 3) := by decide +kernel
theorem dX11_plays_228 : decode cX11_plays 228 = .ok (.iconst 4, 1) := by decide +kernel
theorem dX11_plays_229 : decode cX11_plays 229 = .ok (.iload_n 1, 1) := by decide +kernel
theorem dX11_plays_230 : decode cX11_plays 230 = .ok (.imul, 1) := by decide +kernel
theorem dX11_plays_231 : decode cX11_plays 231 = .ok (.iload 7, 2) := by decide +kernel
theorem dX11_plays_233 : decode cX11_plays 233 = .ok (.iadd, 1) := by decide +kernel
theorem dX11_plays_234 : decode cX11_plays 234 = .ok (.iload 8, 2) := by decide +kernel
theorem dX11_plays_236 : decode cX11_plays 236 = .ok (.sipush 1000, 3) := by decide +kernel
theorem dX11_plays_239 : decode cX11_plays 239 = .ok (.if_icmp .le 9, 3) := by decide +kernel
theorem dX11_plays_242 : decode cX11_plays 242 = .ok (.sipush 1000, 3) := by decide +kernel
theorem dX11_plays_245 : decode cX11_plays 245 = .ok (.goto 5, 3) := by decide +kernel
theorem dX11_plays_248 : decode cX11_plays 248 = .ok (.iload 8, 2) := by decide +kernel
theorem dX11_plays_250 : decode cX11_plays 250 = .ok (.iastore, 1) := by decide +kernel
theorem dX11_plays_251 : decode cX11_plays 251 = .ok (.iinc 7 1, 3) := by decide +kernel
theorem dX11_plays_254 : decode cX11_plays 254 = .ok (.goto (-60), 3) := by decide +kernel
theorem dX11_plays_257 : decode cX11_plays 257 = .ok (.goto 59, 3) := by decide +kernel
theorem dX11_plays_260 : decode cX11_plays 260 = .ok (.iconst 0, 1) := by decide +kernel
theorem dX11_plays_261 : decode cX11_plays 261 = .ok (.istore 7, 2) := by decide +kernel
theorem dX11_plays_263 : decode cX11_plays 263 = .ok (.iload 7, 2) := by decide +kernel
theorem dX11_plays_265 : decode cX11_plays 265 = .ok (.iload 6, 2) := by decide +kernel
theorem dX11_plays_267 : decode cX11_plays 267 = .ok (.if_icmp .ge 49, 3) := by decide +kernel
theorem dX11_plays_270 : decode cX11_plays 270 = .ok (.aload_n 0, 1) := by decide +kernel
theorem dX11_plays_271 : decode cX11_plays 271 = .ok (.iload_n 1, 1) := by decide +kernel
theorem dX11_plays_272 : decode cX11_plays 272 = .ok (.invokevirtual 284, 3) := by decide +kernel
theorem dX11_plays_275 : decode cX11_plays 275 = .ok (.ifCond .ne 6, 3) := by decide +kernel
theorem dX11_plays_278 : decode cX11_plays 278 = .ok (.iload 4, 2) := by decide +kernel
theorem dX11_plays_280 : decode cX11_plays 280 = .ok (.ireturn, 1) := by decide +kernel
theorem dX11_plays_281 : decode cX11_plays 281 = .ok (.iinc 4 1, 3) := by decide +kernel
theorem dX11_plays_284 : decode cX11_plays 284 = .ok (.aload_n 0, 1) := by decide +kernel
theorem dX11_plays_285 : decode cX11_plays 285 = .ok (.aload_n 0, 1) := by decide +kernel
theorem dX11_plays_286 : decode cX11_plays 286 = .ok (.getfield 359, 3) := by decide +kernel
theorem dX11_plays_289 : decode cX11_plays 289 = .ok (.ifCond .ne 13, 3) := by decide +kernel
theorem dX11_plays_292 : decode cX11_plays 292 = .ok (.aload_n 0, 1) := by decide +kernel
theorem dX11_plays_293 : decode cX11_plays 293 = .ok (.iload_n 1, 1) := by decide +kernel
theorem dX11_plays_294 : decode cX11_plays 294 = .ok (.iload_n 2, 1) := by decide +kernel
theorem dX11_plays_295 : decode cX11_plays 295 = .ok (.invokevirtual 243, 3) := by decide +kernel
theorem dX11_plays_298 : decode cX11_plays 298 = .ok (.iload_n 3, 1) := by decide +kernel
theorem dX11_plays_299 : decode cX11_plays 299 = .ok (.if_icmp .lt 7, 3) := by decide +kernel
theorem dX11_plays_302 : decode cX11_plays 302 = .ok (.iconst 1, 1) := by decide +kernel
theorem dX11_plays_303 : decode cX11_plays 303 = .ok (.goto 4, 3) := by decide +kernel
theorem dX11_plays_306 : decode cX11_plays 306 = .ok (.iconst 0, 1) := by decide +kernel
theorem dX11_plays_307 : decode cX11_plays 307 = .ok (.putfield 359, 3) := by decide +kernel
theorem dX11_plays_310 : decode cX11_plays 310 = .ok (.iinc 7 1, 3) := by decide +kernel
theorem dX11_plays_313 : decode cX11_plays 313 = .ok (.goto (-50), 3) := by decide +kernel
theorem dX11_plays_316 : decode cX11_plays 316 = .ok (.iinc 5 1, 3) := by decide +kernel
theorem dX11_plays_319 : decode cX11_plays 319 = .ok (.goto (-308), 3) := by decide +kernel
theorem dX11_plays_322 : decode cX11_plays 322 = .ok (.iload 4, 2) := by decide +kernel
theorem dX11_plays_324 : decode cX11_plays 324 = .ok (.ireturn, 1) := by decide +kernel
set_option maxRecDepth 20000 in
theorem ggX11_turnGate_X11_beyond : GoodIn wsX11_turnGate wsX11_beyond := goodIn_r _ [6, 7, 8, 9, 10, 5, 11, 12, 13, 14, 15, 16, 17, 18, 19, 20, 21, 22, 23, 24, 25, 26, 27, 28, 29, 30, 31, 32, 33, 34, 35, 36, 37, 38, 39, 40, 41, 42, 43, 44, 45, 46, 47, 48, 49, 50, 51, 52, 53, 54, 55, 56, 57, 58, 59, 60, 61, 62, 63, 64, 65, 66, 67, 68, 69, 70, 71, 72, 73, 74, 75, 76, 77, 78, 79, 80, 81, 82, 83, 84, 85] (by decide +kernel) (by decide +kernel)
set_option maxRecDepth 20000 in
theorem gX11_turnGate_X11_beyond : GoodIn wsX11_turnGate (wsV RX11 246 RX11 yX11_beyond wsX11_beyond) := goodIn_app (goodIn_of _ (by decide +kernel)) ggX11_turnGate_X11_beyond
theorem dX11_turnGate_0 : decode cX11_turnGate 0 = .ok (.iload_n 2, 1) := by decide +kernel
theorem dX11_turnGate_1 : decode cX11_turnGate 1 = .ok (.bipush 96, 2) := by decide +kernel
theorem dX11_turnGate_3 : decode cX11_turnGate 3 = .ok (.if_icmp .ge 42, 3) := by decide +kernel
theorem dX11_turnGate_6 : decode cX11_turnGate 6 = .ok (.aload_n 0, 1) := by decide +kernel
theorem dX11_turnGate_7 : decode cX11_turnGate 7 = .ok (.iload_n 1, 1) := by decide +kernel
theorem dX11_turnGate_8 : decode cX11_turnGate 8 = .ok (.iload_n 2, 1) := by decide +kernel
theorem dX11_turnGate_9 : decode cX11_turnGate 9 = .ok (.invokevirtual 246, 3) := by decide +kernel
theorem dX11_turnGate_12 : decode cX11_turnGate 12 = .ok (.ifCond .lt 33, 3) := by decide +kernel
theorem dX11_turnGate_15 : decode cX11_turnGate 15 = .ok (.aload_n 0, 1) := by decide +kernel
theorem dX11_turnGate_16 : decode cX11_turnGate 16 = .ok (.getfield 101, 3) := by decide +kernel
theorem dX11_turnGate_19 : decode cX11_turnGate 19 = .ok (.bipush 96, 2) := by decide +kernel
theorem dX11_turnGate_21 : decode cX11_turnGate 21 = .ok (.iload_n 1, 1) := by decide +kernel
theorem dX11_turnGate_22 : decode cX11_turnGate 22 = .ok (.imul, 1) := by decide +kernel
theorem dX11_turnGate_23 : decode cX11_turnGate 23 = .ok (.iload_n 2, 1) := by decide +kernel
theorem dX11_turnGate_24 : decode cX11_turnGate 24 = .ok (.iadd, 1) := by decide +kernel
theorem dX11_turnGate_25 : decode cX11_turnGate 25 = .ok (.aload_n 0, 1) := by decide +kernel
theorem dX11_turnGate_26 : decode cX11_turnGate 26 = .ok (.getfield 101, 3) := by decide +kernel
theorem dX11_turnGate_29 : decode cX11_turnGate 29 = .ok (.bipush 96, 2) := by decide +kernel
theorem dX11_turnGate_31 : decode cX11_turnGate 31 = .ok (.iload_n 1, 1) := by decide +kernel
theorem dX11_turnGate_32 : decode cX11_turnGate 32 = .ok (.imul, 1) := by decide +kernel
theorem dX11_turnGate_33 : decode cX11_turnGate 33 = .ok (.iload_n 2, 1) := by decide +kernel
theorem dX11_turnGate_34 : decode cX11_turnGate 34 = .ok (.iadd, 1) := by decide +kernel
theorem dX11_turnGate_35 : decode cX11_turnGate 35 = .ok (.baload, 1) := by decide +kernel
theorem dX11_turnGate_36 : decode cX11_turnGate 36 = .ok (.ifCond .ne 7, 3) := by decide +kernel
theorem dX11_turnGate_39 : decode cX11_turnGate 39 = .ok (.iconst 1, 1) := by decide +kernel
theorem dX11_turnGate_40 : decode cX11_turnGate 40 = .ok (.goto 4, 3) := by decide +kernel
theorem dX11_turnGate_43 : decode cX11_turnGate 43 = .ok (.iconst 0, 1) := by decide +kernel
theorem dX11_turnGate_44 : decode cX11_turnGate 44 = .ok (.bastore, 1) := by decide +kernel
theorem dX11_turnGate_45 : decode cX11_turnGate 45 = .ok (.return_, 1) := by decide +kernel
set_option maxRecDepth 20000 in
theorem ggX11_play_X11_isSix : GoodIn wsX11_play wsX11_isSix := goodIn_r _ [7, 8, 9, 6, 10] (by decide +kernel) (by decide +kernel)
set_option maxRecDepth 20000 in
theorem gX11_play_X11_isSix : GoodIn wsX11_play (va_wsS RX11 186 yX11_isSix wsX11_isSix) := goodIn_app (goodIn_of _ (by decide +kernel)) ggX11_play_X11_isSix
set_option maxRecDepth 20000 in
theorem ggX11_play_X11_meets : GoodIn wsX11_play wsX11_meets := goodIn_r _ [14, 15, 16, 133, 134, 135, 136, 137, 138, 139, 140, 141, 142, 143, 144, 145, 146, 147, 148, 149, 150, 151, 152, 153, 154, 155, 156, 157, 158, 159, 160, 161, 162, 163, 164, 165, 166, 167, 168, 169, 170, 171, 172, 173, 174, 175, 176, 177, 178, 179, 180, 181, 182, 183, 184, 185, 186, 187, 188, 189, 190, 191, 192, 193, 194, 195, 196, 197, 198] (by decide +kernel) (by decide +kernel)
set_option maxRecDepth 20000 in
theorem gX11_play_X11_meets : GoodIn wsX11_play (wsV RX11 190 RX11 yX11_meets wsX11_meets) := goodIn_app (goodIn_of _ (by decide +kernel)) ggX11_play_X11_meets
set_option maxRecDepth 20000 in
theorem ggX11_play_X11_reads : GoodIn wsX11_play wsX11_reads := goodIn_r _ [20, 21, 22, 23, 24, 25, 6, 26, 8, 9, 10, 27, 28, 29, 133, 134, 135, 136, 137, 138, 139, 140, 141, 142, 143, 144, 145, 146, 147, 148, 149, 150, 151, 152, 153, 154, 155, 156, 157, 158, 159, 160, 161, 162, 163, 164, 165, 166, 167, 168, 169, 170, 171, 172, 173, 174, 175, 176, 177, 178, 179, 180, 181, 182, 183, 184, 185, 186, 187, 188, 189, 190, 191, 192, 193, 194, 195, 196, 197, 198] (by decide +kernel) (by decide +kernel)
set_option maxRecDepth 20000 in
theorem gX11_play_X11_reads : GoodIn wsX11_play (wsV RX11 219 RX11 yX11_reads wsX11_reads) := goodIn_app (goodIn_of _ (by decide +kernel)) ggX11_play_X11_reads
set_option maxRecDepth 20000 in
theorem ggX11_play_X11_plays : GoodIn wsX11_play wsX11_plays := goodIn_r _ [33, 34, 21, 23, 22, 35, 36, 37, 38, 39, 40, 41, 42, 43, 6, 44, 45, 46, 47, 48, 49, 50, 51, 52, 53, 54, 55, 56, 57, 58, 59, 8, 9, 10, 60, 61, 62, 63, 1, 64, 65, 66, 67, 68, 69, 70, 71, 72, 73, 74, 75, 76, 77, 78, 79, 80, 81, 82, 83, 84, 85, 86, 87, 88, 89, 90, 91, 92, 93, 94, 95, 96, 97, 98, 99, 100, 101, 102, 103, 104, 105, 106, 107, 108, 109, 110, 111, 112, 113, 114, 115, 116, 117, 118, 119, 120, 121, 122, 123, 124, 125, 126, 127, 128, 129, 130, 131, 132, 133, 134, 135, 136, 137, 138, 139, 140, 141, 142, 143, 144, 145, 146, 147, 148, 149, 150, 151, 152, 153, 154, 155, 156, 157, 158, 159, 160, 161, 162, 163, 164, 165, 166, 167, 168, 169, 170, 171, 172, 173, 174, 175, 176, 177, 178, 179, 180, 181, 182, 183, 184, 185, 186, 187, 188, 189, 190, 191, 192, 193, 194, 195, 196, 197, 198] (by decide +kernel) (by decide +kernel)
set_option maxRecDepth 20000 in
theorem gX11_play_X11_plays : GoodIn wsX11_play (wsV RX11 365 RX11 yX11_plays wsX11_plays) := goodIn_app (goodIn_of _ (by decide +kernel)) ggX11_play_X11_plays
theorem dX11_play_0 : decode cX11_play 0 = .ok (.iload_n 1, 1) := by decide +kernel
theorem dX11_play_1 : decode cX11_play 1 = .ok (.invokestatic 186, 3) := by decide +kernel
theorem dX11_play_4 : decode cX11_play 4 = .ok (.ifCond .eq 10, 3) := by decide +kernel
theorem dX11_play_7 : decode cX11_play 7 = .ok (.iload_n 2, 1) := by decide +kernel
theorem dX11_play_8 : decode cX11_play 8 = .ok (.invokestatic 186, 3) := by decide +kernel
theorem dX11_play_11 : decode cX11_play 11 = .ok (.ifCond .ne 5, 3) := by decide +kernel
theorem dX11_play_14 : decode cX11_play 14 = .ok (.iconst (-1), 1) := by decide +kernel
theorem dX11_play_15 : decode cX11_play 15 = .ok (.ireturn, 1) := by decide +kernel
theorem dX11_play_16 : decode cX11_play 16 = .ok (.aload_n 0, 1) := by decide +kernel
theorem dX11_play_17 : decode cX11_play 17 = .ok (.getfield 38, 3) := by decide +kernel
theorem dX11_play_20 : decode cX11_play 20 = .ok (.iload_n 1, 1) := by decide +kernel
theorem dX11_play_21 : decode cX11_play 21 = .ok (.iaload, 1) := by decide +kernel
theorem dX11_play_22 : decode cX11_play 22 = .ok (.ifCond .lt 12, 3) := by decide +kernel
theorem dX11_play_25 : decode cX11_play 25 = .ok (.aload_n 0, 1) := by decide +kernel
theorem dX11_play_26 : decode cX11_play 26 = .ok (.getfield 26, 3) := by decide +kernel
theorem dX11_play_29 : decode cX11_play 29 = .ok (.iload_n 2, 1) := by decide +kernel
theorem dX11_play_30 : decode cX11_play 30 = .ok (.iaload, 1) := by decide +kernel
theorem dX11_play_31 : decode cX11_play 31 = .ok (.ifCond .ge 9, 3) := by decide +kernel
theorem dX11_play_34 : decode cX11_play 34 = .ok (.aload_n 0, 1) := by decide +kernel
theorem dX11_play_35 : decode cX11_play 35 = .ok (.iconst 1, 1) := by decide +kernel
theorem dX11_play_36 : decode cX11_play 36 = .ok (.invokevirtual 190, 3) := by decide +kernel
theorem dX11_play_39 : decode cX11_play 39 = .ok (.ireturn, 1) := by decide +kernel
theorem dX11_play_40 : decode cX11_play 40 = .ok (.aload_n 0, 1) := by decide +kernel
theorem dX11_play_41 : decode cX11_play 41 = .ok (.aload_n 0, 1) := by decide +kernel
theorem dX11_play_42 : decode cX11_play 42 = .ok (.getfield 29, 3) := by decide +kernel
theorem dX11_play_45 : decode cX11_play 45 = .ok (.bipush 40, 2) := by decide +kernel
theorem dX11_play_47 : decode cX11_play 47 = .ok (.iload_n 2, 1) := by decide +kernel
theorem dX11_play_48 : decode cX11_play 48 = .ok (.imul, 1) := by decide +kernel
theorem dX11_play_49 : decode cX11_play 49 = .ok (.aload_n 0, 1) := by decide +kernel
theorem dX11_play_50 : decode cX11_play 50 = .ok (.getfield 26, 3) := by decide +kernel
theorem dX11_play_53 : decode cX11_play 53 = .ok (.iload_n 2, 1) := by decide +kernel
theorem dX11_play_54 : decode cX11_play 54 = .ok (.iaload, 1) := by decide +kernel
theorem dX11_play_55 : decode cX11_play 55 = .ok (.invokevirtual 219, 3) := by decide +kernel
theorem dX11_play_58 : decode cX11_play 58 = .ok (.bipush (-9), 2) := by decide +kernel
theorem dX11_play_60 : decode cX11_play 60 = .ok (.if_icmp .eq 8, 3) := by decide +kernel
theorem dX11_play_63 : decode cX11_play 63 = .ok (.bipush (-4), 2) := by decide +kernel
theorem dX11_play_65 : decode cX11_play 65 = .ok (.goto 10, 3) := by decide +kernel
theorem dX11_play_68 : decode cX11_play 68 = .ok (.aload_n 0, 1) := by decide +kernel
theorem dX11_play_69 : decode cX11_play 69 = .ok (.iload_n 1, 1) := by decide +kernel
theorem dX11_play_70 : decode cX11_play 70 = .ok (.iconst 0, 1) := by decide +kernel
theorem dX11_play_71 : decode cX11_play 71 = .ok (.iconst 0, 1) := by decide +kernel
theorem dX11_play_72 : decode cX11_play 72 = .ok (.invokevirtual 365, 3) := by decide +kernel
theorem dX11_play_75 : decode cX11_play 75 = .ok (.ireturn, 1) := by decide +kernel
set_option maxRecDepth 20000 in
theorem ggX11_world_X11_isSix : GoodIn wsX11_world wsX11_isSix := goodIn_r _ [10, 11, 12, 9, 13] (by decide +kernel) (by decide +kernel)
set_option maxRecDepth 20000 in
theorem gX11_world_X11_isSix : GoodIn wsX11_world (va_wsS RX11 186 yX11_isSix wsX11_isSix) := goodIn_app (goodIn_of _ (by decide +kernel)) ggX11_world_X11_isSix
set_option maxRecDepth 20000 in
theorem ggX11_world_X11_in : GoodIn wsX11_world wsX11_in := goodIn_r _ [13] (by decide +kernel) (by decide +kernel)
set_option maxRecDepth 20000 in
theorem gX11_world_X11_in : GoodIn wsX11_world (va_wsS RX11 182 yX11_in wsX11_in) := goodIn_app (goodIn_of _ (by decide +kernel)) ggX11_world_X11_in
set_option maxRecDepth 20000 in
theorem ggX11_world_X11_meets : GoodIn wsX11_world wsX11_meets := goodIn_r _ [17, 18, 19, 33, 34, 35, 36, 37, 38, 39, 40, 41, 42, 43, 44, 45, 46, 47, 48, 49, 50, 51, 52, 53, 54, 55, 56, 57, 58, 59, 60, 61, 62, 63, 64, 65, 66, 67, 68, 69, 70, 71, 72, 73, 74, 75, 76, 77, 78, 79, 80, 81, 82, 83, 84, 85, 86, 87, 88, 89, 90, 91, 92, 93, 94, 95, 96, 97, 98] (by decide +kernel) (by decide +kernel)
set_option maxRecDepth 20000 in
theorem gX11_world_X11_meets : GoodIn wsX11_world (wsV RX11 190 RX11 yX11_meets wsX11_meets) := goodIn_app (goodIn_of _ (by decide +kernel)) ggX11_world_X11_meets
set_option maxRecDepth 20000 in
theorem ggX11_world_X11_reads : GoodIn wsX11_world wsX11_reads := goodIn_r _ [23, 24, 25, 26, 27, 28, 9, 29, 11, 12, 13, 30, 31, 32, 33, 34, 35, 36, 37, 38, 39, 40, 41, 42, 43, 44, 45, 46, 47, 48, 49, 50, 51, 52, 53, 54, 55, 56, 57, 58, 59, 60, 61, 62, 63, 64, 65, 66, 67, 68, 69, 70, 71, 72, 73, 74, 75, 76, 77, 78, 79, 80, 81, 82, 83, 84, 85, 86, 87, 88, 89, 90, 91, 92, 93, 94, 95, 96, 97, 98] (by decide +kernel) (by decide +kernel)
set_option maxRecDepth 20000 in
theorem gX11_world_X11_reads : GoodIn wsX11_world (wsV RX11 219 RX11 yX11_reads wsX11_reads) := goodIn_app (goodIn_of _ (by decide +kernel)) ggX11_world_X11_reads
theorem dX11_world_0 : decode cX11_world 0 = .ok (.iload_n 1, 1) := by decide +kernel
theorem dX11_world_1 : decode cX11_world 1 = .ok (.invokestatic 186, 3) := by decide +kernel
theorem dX11_world_4 : decode cX11_world 4 = .ok (.ifCond .eq 13, 3) := by decide +kernel
theorem dX11_world_7 : decode cX11_world 7 = .ok (.iload_n 2, 1) := by decide +kernel
theorem dX11_world_8 : decode cX11_world 8 = .ok (.iconst 0, 1) := by decide +kernel
theorem dX11_world_9 : decode cX11_world 9 = .ok (.bipush 99, 2) := by decide +kernel
theorem dX11_world_11 : decode cX11_world 11 = .ok (.invokestatic 182, 3) := by decide +kernel
theorem dX11_world_14 : decode cX11_world 14 = .ok (.ifCond .ne 5, 3) := by decide +kernel
theorem dX11_world_17 : decode cX11_world 17 = .ok (.iconst (-1), 1) := by decide +kernel
theorem dX11_world_18 : decode cX11_world 18 = .ok (.ireturn, 1) := by decide +kernel
theorem dX11_world_19 : decode cX11_world 19 = .ok (.aload_n 0, 1) := by decide +kernel
theorem dX11_world_20 : decode cX11_world 20 = .ok (.getfield 368, 3) := by decide +kernel
theorem dX11_world_23 : decode cX11_world 23 = .ok (.bipush 8, 2) := by decide +kernel
theorem dX11_world_25 : decode cX11_world 25 = .ok (.if_icmp .ne 6, 3) := by decide +kernel
theorem dX11_world_28 : decode cX11_world 28 = .ok (.bipush (-2), 2) := by decide +kernel
theorem dX11_world_30 : decode cX11_world 30 = .ok (.ireturn, 1) := by decide +kernel
theorem dX11_world_31 : decode cX11_world 31 = .ok (.aload_n 0, 1) := by decide +kernel
theorem dX11_world_32 : decode cX11_world 32 = .ok (.getfield 26, 3) := by decide +kernel
theorem dX11_world_35 : decode cX11_world 35 = .ok (.iload_n 1, 1) := by decide +kernel
theorem dX11_world_36 : decode cX11_world 36 = .ok (.iaload, 1) := by decide +kernel
theorem dX11_world_37 : decode cX11_world 37 = .ok (.ifCond .ge 9, 3) := by decide +kernel
theorem dX11_world_40 : decode cX11_world 40 = .ok (.aload_n 0, 1) := by decide +kernel
theorem dX11_world_41 : decode cX11_world 41 = .ok (.iconst 1, 1) := by decide +kernel
theorem dX11_world_42 : decode cX11_world 42 = .ok (.invokevirtual 190, 3) := by decide +kernel
theorem dX11_world_45 : decode cX11_world 45 = .ok (.ireturn, 1) := by decide +kernel
theorem dX11_world_46 : decode cX11_world 46 = .ok (.aload_n 0, 1) := by decide +kernel
theorem dX11_world_47 : decode cX11_world 47 = .ok (.aload_n 0, 1) := by decide +kernel
theorem dX11_world_48 : decode cX11_world 48 = .ok (.getfield 29, 3) := by decide +kernel
theorem dX11_world_51 : decode cX11_world 51 = .ok (.bipush 40, 2) := by decide +kernel
theorem dX11_world_53 : decode cX11_world 53 = .ok (.iload_n 1, 1) := by decide +kernel
theorem dX11_world_54 : decode cX11_world 54 = .ok (.imul, 1) := by decide +kernel
theorem dX11_world_55 : decode cX11_world 55 = .ok (.aload_n 0, 1) := by decide +kernel
theorem dX11_world_56 : decode cX11_world 56 = .ok (.getfield 26, 3) := by decide +kernel
theorem dX11_world_59 : decode cX11_world 59 = .ok (.iload_n 1, 1) := by decide +kernel
theorem dX11_world_60 : decode cX11_world 60 = .ok (.iaload, 1) := by decide +kernel
theorem dX11_world_61 : decode cX11_world 61 = .ok (.invokevirtual 219, 3) := by decide +kernel
theorem dX11_world_64 : decode cX11_world 64 = .ok (.bipush (-9), 2) := by decide +kernel
theorem dX11_world_66 : decode cX11_world 66 = .ok (.if_icmp .eq 6, 3) := by decide +kernel
theorem dX11_world_69 : decode cX11_world 69 = .ok (.bipush (-4), 2) := by decide +kernel
theorem dX11_world_71 : decode cX11_world 71 = .ok (.ireturn, 1) := by decide +kernel
theorem dX11_world_72 : decode cX11_world 72 = .ok (.aload_n 0, 1) := by decide +kernel
theorem dX11_world_73 : decode cX11_world 73 = .ok (.getfield 163, 3) := by decide +kernel
theorem dX11_world_76 : decode cX11_world 76 = .ok (.aload_n 0, 1) := by decide +kernel
theorem dX11_world_77 : decode cX11_world 77 = .ok (.getfield 368, 3) := by decide +kernel
theorem dX11_world_80 : decode cX11_world 80 = .ok (.aload_n 0, 1) := by decide +kernel
theorem dX11_world_81 : decode cX11_world 81 = .ok (.getfield 26, 3) := by decide +kernel
theorem dX11_world_84 : decode cX11_world 84 = .ok (.iload_n 1, 1) := by decide +kernel
theorem dX11_world_85 : decode cX11_world 85 = .ok (.iaload, 1) := by decide +kernel
theorem dX11_world_86 : decode cX11_world 86 = .ok (.iastore, 1) := by decide +kernel
theorem dX11_world_87 : decode cX11_world 87 = .ok (.aload_n 0, 1) := by decide +kernel
theorem dX11_world_88 : decode cX11_world 88 = .ok (.getfield 169, 3) := by decide +kernel
theorem dX11_world_91 : decode cX11_world 91 = .ok (.aload_n 0, 1) := by decide +kernel
theorem dX11_world_92 : decode cX11_world 92 = .ok (.getfield 368, 3) := by decide +kernel
theorem dX11_world_95 : decode cX11_world 95 = .ok (.iload_n 2, 1) := by decide +kernel
theorem dX11_world_96 : decode cX11_world 96 = .ok (.iastore, 1) := by decide +kernel
theorem dX11_world_97 : decode cX11_world 97 = .ok (.iconst 0, 1) := by decide +kernel
theorem dX11_world_98 : decode cX11_world 98 = .ok (.istore_n 3, 1) := by decide +kernel
theorem dX11_world_99 : decode cX11_world 99 = .ok (.iload_n 3, 1) := by decide +kernel
theorem dX11_world_100 : decode cX11_world 100 = .ok (.aload_n 0, 1) := by decide +kernel
theorem dX11_world_101 : decode cX11_world 101 = .ok (.getfield 26, 3) := by decide +kernel
theorem dX11_world_104 : decode cX11_world 104 = .ok (.iload_n 1, 1) := by decide +kernel
theorem dX11_world_105 : decode cX11_world 105 = .ok (.iaload, 1) := by decide +kernel
theorem dX11_world_106 : decode cX11_world 106 = .ok (.if_icmp .ge 34, 3) := by decide +kernel
theorem dX11_world_109 : decode cX11_world 109 = .ok (.aload_n 0, 1) := by decide +kernel
theorem dX11_world_110 : decode cX11_world 110 = .ok (.getfield 166, 3) := by decide +kernel
theorem dX11_world_113 : decode cX11_world 113 = .ok (.bipush 40, 2) := by decide +kernel
theorem dX11_world_115 : decode cX11_world 115 = .ok (.aload_n 0, 1) := by decide +kernel
theorem dX11_world_116 : decode cX11_world 116 = .ok (.getfield 368, 3) := by decide +kernel
theorem dX11_world_119 : decode cX11_world 119 = .ok (.imul, 1) := by decide +kernel
theorem dX11_world_120 : decode cX11_world 120 = .ok (.iload_n 3, 1) := by decide +kernel
theorem dX11_world_121 : decode cX11_world 121 = .ok (.iadd, 1) := by decide +kernel
theorem dX11_world_122 : decode cX11_world 122 = .ok (.aload_n 0, 1) := by decide +kernel
theorem dX11_world_123 : decode cX11_world 123 = .ok (.getfield 29, 3) := by decide +kernel
theorem dX11_world_126 : decode cX11_world 126 = .ok (.bipush 40, 2) := by decide +kernel
theorem dX11_world_128 : decode cX11_world 128 = .ok (.iload_n 1, 1) := by decide +kernel
theorem dX11_world_129 : decode cX11_world 129 = .ok (.imul, 1) := by decide +kernel
theorem dX11_world_130 : decode cX11_world 130 = .ok (.iload_n 3, 1) := by decide +kernel
theorem dX11_world_131 : decode cX11_world 131 = .ok (.iadd, 1) := by decide +kernel
theorem dX11_world_132 : decode cX11_world 132 = .ok (.iaload, 1) := by decide +kernel
theorem dX11_world_133 : decode cX11_world 133 = .ok (.iastore, 1) := by decide +kernel
theorem dX11_world_134 : decode cX11_world 134 = .ok (.iinc 3 1, 3) := by decide +kernel
theorem dX11_world_137 : decode cX11_world 137 = .ok (.goto (-38), 3) := by decide +kernel
theorem dX11_world_140 : decode cX11_world 140 = .ok (.aload_n 0, 1) := by decide +kernel
theorem dX11_world_141 : decode cX11_world 141 = .ok (.dup, 1) := by decide +kernel
theorem dX11_world_142 : decode cX11_world 142 = .ok (.getfield 368, 3) := by decide +kernel
theorem dX11_world_145 : decode cX11_world 145 = .ok (.iconst 1, 1) := by decide +kernel
theorem dX11_world_146 : decode cX11_world 146 = .ok (.iadd, 1) := by decide +kernel
theorem dX11_world_147 : decode cX11_world 147 = .ok (.putfield 368, 3) := by decide +kernel
theorem dX11_world_150 : decode cX11_world 150 = .ok (.aload_n 0, 1) := by decide +kernel
theorem dX11_world_151 : decode cX11_world 151 = .ok (.getfield 368, 3) := by decide +kernel
theorem dX11_world_154 : decode cX11_world 154 = .ok (.iconst 1, 1) := by decide +kernel
theorem dX11_world_155 : decode cX11_world 155 = .ok (.isub, 1) := by decide +kernel
theorem dX11_world_156 : decode cX11_world 156 = .ok (.ireturn, 1) := by decide +kernel
theorem dX11_forget_0 : decode cX11_forget 0 = .ok (.aload_n 0, 1) := by decide +kernel
theorem dX11_forget_1 : decode cX11_forget 1 = .ok (.getfield 368, 3) := by decide +kernel
theorem dX11_forget_4 : decode cX11_forget 4 = .ok (.istore_n 1, 1) := by decide +kernel
theorem dX11_forget_5 : decode cX11_forget 5 = .ok (.aload_n 0, 1) := by decide +kernel
theorem dX11_forget_6 : decode cX11_forget 6 = .ok (.iconst 0, 1) := by decide +kernel
theorem dX11_forget_7 : decode cX11_forget 7 = .ok (.putfield 368, 3) := by decide +kernel
theorem dX11_forget_10 : decode cX11_forget 10 = .ok (.iload_n 1, 1) := by decide +kernel
theorem dX11_forget_11 : decode cX11_forget 11 = .ok (.ireturn, 1) := by decide +kernel
set_option maxRecDepth 20000 in
theorem ggX11_allWeights_X11_sumOf : GoodIn wsX11_allWeights wsX11_sumOf := goodIn_r _ [7] (by decide +kernel) (by decide +kernel)
set_option maxRecDepth 20000 in
theorem gX11_allWeights_X11_sumOf : GoodIn wsX11_allWeights (wsV RX11 287 RX11 yX11_sumOf wsX11_sumOf) := goodIn_app (goodIn_of _ (by decide +kernel)) ggX11_allWeights_X11_sumOf
theorem dX11_allWeights_0 : decode cX11_allWeights 0 = .ok (.aload_n 0, 1) := by decide +kernel
theorem dX11_allWeights_1 : decode cX11_allWeights 1 = .ok (.aload_n 0, 1) := by decide +kernel
theorem dX11_allWeights_2 : decode cX11_allWeights 2 = .ok (.getfield 169, 3) := by decide +kernel
theorem dX11_allWeights_5 : decode cX11_allWeights 5 = .ok (.iconst 0, 1) := by decide +kernel
theorem dX11_allWeights_6 : decode cX11_allWeights 6 = .ok (.aload_n 0, 1) := by decide +kernel
theorem dX11_allWeights_7 : decode cX11_allWeights 7 = .ok (.getfield 368, 3) := by decide +kernel
theorem dX11_allWeights_10 : decode cX11_allWeights 10 = .ok (.invokevirtual 287, 3) := by decide +kernel
theorem dX11_allWeights_13 : decode cX11_allWeights 13 = .ok (.ireturn, 1) := by decide +kernel
set_option maxRecDepth 20000 in
theorem ggX11_alarmOf_X11_bring : GoodIn wsX11_alarmOf wsX11_bring := goodIn_r _ [11, 6, 12, 13, 14, 15, 16, 17, 18, 19, 20, 21, 22, 23, 24, 25, 26, 27, 28, 29, 30, 31, 32, 33, 34, 35, 10, 36, 37, 38, 138, 139, 140, 141, 142, 143, 144, 145, 146, 147, 148, 149, 150, 151, 152, 153, 154, 155, 156, 157, 158, 159, 160, 161, 162, 163, 164, 165, 166, 167, 168, 169, 170, 171, 172, 173, 174, 175, 176, 177, 178, 179, 180, 181, 182, 183, 184, 185, 186, 187, 188, 189, 190, 191, 192, 193, 194, 195, 196, 197, 198, 199, 200, 201, 202, 203] (by decide +kernel) (by decide +kernel)
set_option maxRecDepth 20000 in
theorem gX11_alarmOf_X11_bring : GoodIn wsX11_alarmOf (wsV RX11 299 RX11 yX11_bring wsX11_bring) := goodIn_app (goodIn_of _ (by decide +kernel)) ggX11_alarmOf_X11_bring
set_option maxRecDepth 20000 in
theorem ggX11_alarmOf_X11_reads : GoodIn wsX11_alarmOf wsX11_reads := goodIn_r _ [42, 43, 44, 45, 46, 47, 10, 48, 49, 50, 51, 52, 53, 54, 138, 139, 140, 141, 142, 143, 144, 145, 146, 147, 148, 149, 150, 151, 152, 153, 154, 155, 156, 157, 158, 159, 160, 161, 162, 163, 164, 165, 166, 167, 168, 169, 170, 171, 172, 173, 174, 175, 176, 177, 178, 179, 180, 181, 182, 183, 184, 185, 186, 187, 188, 189, 190, 191, 192, 193, 194, 195, 196, 197, 198, 199, 200, 201, 202, 203] (by decide +kernel) (by decide +kernel)
set_option maxRecDepth 20000 in
theorem gX11_alarmOf_X11_reads : GoodIn wsX11_alarmOf (wsV RX11 219 RX11 yX11_reads wsX11_reads) := goodIn_app (goodIn_of _ (by decide +kernel)) ggX11_alarmOf_X11_reads
set_option maxRecDepth 20000 in
theorem ggX11_alarmOf_X11_plays : GoodIn wsX11_alarmOf wsX11_plays := goodIn_r _ [58, 4, 43, 45, 44, 16, 17, 22, 14, 23, 26, 59, 60, 61, 10, 62, 32, 63, 64, 65, 66, 12, 67, 68, 69, 70, 71, 72, 73, 74, 13, 49, 50, 51, 75, 76, 77, 78, 6, 79, 80, 81, 82, 83, 25, 84, 19, 31, 85, 29, 30, 86, 87, 88, 89, 18, 90, 91, 92, 93, 94, 95, 96, 97, 98, 99, 100, 15, 28, 101, 102, 103, 104, 105, 106, 107, 108, 109, 110, 111, 112, 21, 113, 114, 115, 116, 117, 20, 118, 119, 120, 121, 122, 123, 124, 125, 126, 127, 128, 129, 130, 131, 132, 133, 134, 135, 136, 137, 138, 139, 140, 141, 142, 143, 144, 145, 146, 147, 148, 149, 150, 151, 152, 153, 154, 155, 156, 157, 158, 159, 160, 161, 162, 163, 164, 165, 166, 167, 168, 169, 170, 171, 172, 173, 174, 175, 176, 177, 178, 179, 180, 181, 182, 183, 184, 185, 186, 187, 188, 189, 190, 191, 192, 193, 194, 195, 196, 197, 198, 199, 200, 201, 202, 203] (by decide +kernel) (by decide +kernel)
set_option maxRecDepth 20000 in
theorem gX11_alarmOf_X11_plays : GoodIn wsX11_alarmOf (wsV RX11 365 RX11 yX11_plays wsX11_plays) := goodIn_app (goodIn_of _ (by decide +kernel)) ggX11_alarmOf_X11_plays
theorem dX11_alarmOf_0 : decode cX11_alarmOf 0 = .ok (.iconst 0, 1) := by decide +kernel
theorem dX11_alarmOf_1 : decode cX11_alarmOf 1 = .ok (.istore 4, 2) := by decide +kernel
theorem dX11_alarmOf_3 : decode cX11_alarmOf 3 = .ok (.iconst 0, 1) := by decide +kernel
theorem dX11_alarmOf_4 : decode cX11_alarmOf 4 = .ok (.istore 5, 2) := by decide +kernel
theorem dX11_alarmOf_6 : decode cX11_alarmOf 6 = .ok (.iload 5, 2) := by decide +kernel
theorem dX11_alarmOf_8 : decode cX11_alarmOf 8 = .ok (.aload_n 0, 1) := by decide +kernel
theorem dX11_alarmOf_9 : decode cX11_alarmOf 9 = .ok (.getfield 368, 3) := by decide +kernel
theorem dX11_alarmOf_12 : decode cX11_alarmOf 12 = .ok (.if_icmp .ge 71, 3) := by decide +kernel
theorem dX11_alarmOf_15 : decode cX11_alarmOf 15 = .ok (.aload_n 0, 1) := by decide +kernel
theorem dX11_alarmOf_16 : decode cX11_alarmOf 16 = .ok (.iload_n 1, 1) := by decide +kernel
theorem dX11_alarmOf_17 : decode cX11_alarmOf 17 = .ok (.bipush 6, 2) := by decide +kernel
theorem dX11_alarmOf_19 : decode cX11_alarmOf 19 = .ok (.invokevirtual 299, 3) := by decide +kernel
theorem dX11_alarmOf_22 : decode cX11_alarmOf 22 = .ok (.aload_n 0, 1) := by decide +kernel
theorem dX11_alarmOf_23 : decode cX11_alarmOf 23 = .ok (.aload_n 0, 1) := by decide +kernel
theorem dX11_alarmOf_24 : decode cX11_alarmOf 24 = .ok (.getfield 166, 3) := by decide +kernel
theorem dX11_alarmOf_27 : decode cX11_alarmOf 27 = .ok (.bipush 40, 2) := by decide +kernel
theorem dX11_alarmOf_29 : decode cX11_alarmOf 29 = .ok (.iload 5, 2) := by decide +kernel
theorem dX11_alarmOf_31 : decode cX11_alarmOf 31 = .ok (.imul, 1) := by decide +kernel
theorem dX11_alarmOf_32 : decode cX11_alarmOf 32 = .ok (.aload_n 0, 1) := by decide +kernel
theorem dX11_alarmOf_33 : decode cX11_alarmOf 33 = .ok (.getfield 163, 3) := by decide +kernel
theorem dX11_alarmOf_36 : decode cX11_alarmOf 36 = .ok (.iload 5, 2) := by decide +kernel
theorem dX11_alarmOf_38 : decode cX11_alarmOf 38 = .ok (.iaload, 1) := by decide +kernel
theorem dX11_alarmOf_39 : decode cX11_alarmOf 39 = .ok (.invokevirtual 219, 3) := by decide +kernel
theorem dX11_alarmOf_42 : decode cX11_alarmOf 42 = .ok (.bipush (-9), 2) := by decide +kernel
theorem dX11_alarmOf_44 : decode cX11_alarmOf 44 = .ok (.if_icmp .ne 33, 3) := by decide +kernel
theorem dX11_alarmOf_47 : decode cX11_alarmOf 47 = .ok (.aload_n 0, 1) := by decide +kernel
theorem dX11_alarmOf_48 : decode cX11_alarmOf 48 = .ok (.bipush 6, 2) := by decide +kernel
theorem dX11_alarmOf_50 : decode cX11_alarmOf 50 = .ok (.iload_n 2, 1) := by decide +kernel
theorem dX11_alarmOf_51 : decode cX11_alarmOf 51 = .ok (.iload_n 3, 1) := by decide +kernel
theorem dX11_alarmOf_52 : decode cX11_alarmOf 52 = .ok (.invokevirtual 365, 3) := by decide +kernel
theorem dX11_alarmOf_55 : decode cX11_alarmOf 55 = .ok (.ifCond .lt 22, 3) := by decide +kernel
theorem dX11_alarmOf_58 : decode cX11_alarmOf 58 = .ok (.aload_n 0, 1) := by decide +kernel
theorem dX11_alarmOf_59 : decode cX11_alarmOf 59 = .ok (.getfield 359, 3) := by decide +kernel
theorem dX11_alarmOf_62 : decode cX11_alarmOf 62 = .ok (.ifCond .eq 15, 3) := by decide +kernel
theorem dX11_alarmOf_65 : decode cX11_alarmOf 65 = .ok (.iload 4, 2) := by decide +kernel
theorem dX11_alarmOf_67 : decode cX11_alarmOf 67 = .ok (.aload_n 0, 1) := by decide +kernel
theorem dX11_alarmOf_68 : decode cX11_alarmOf 68 = .ok (.getfield 169, 3) := by decide +kernel
theorem dX11_alarmOf_71 : decode cX11_alarmOf 71 = .ok (.iload 5, 2) := by decide +kernel
theorem dX11_alarmOf_73 : decode cX11_alarmOf 73 = .ok (.iaload, 1) := by decide +kernel
theorem dX11_alarmOf_74 : decode cX11_alarmOf 74 = .ok (.iadd, 1) := by decide +kernel
theorem dX11_alarmOf_75 : decode cX11_alarmOf 75 = .ok (.istore 4, 2) := by decide +kernel
theorem dX11_alarmOf_77 : decode cX11_alarmOf 77 = .ok (.iinc 5 1, 3) := by decide +kernel
theorem dX11_alarmOf_80 : decode cX11_alarmOf 80 = .ok (.goto (-74), 3) := by decide +kernel
theorem dX11_alarmOf_83 : decode cX11_alarmOf 83 = .ok (.aload_n 0, 1) := by decide +kernel
theorem dX11_alarmOf_84 : decode cX11_alarmOf 84 = .ok (.getfield 38, 3) := by decide +kernel
theorem dX11_alarmOf_87 : decode cX11_alarmOf 87 = .ok (.bipush 6, 2) := by decide +kernel
theorem dX11_alarmOf_89 : decode cX11_alarmOf 89 = .ok (.bipush (-9), 2) := by decide +kernel
theorem dX11_alarmOf_91 : decode cX11_alarmOf 91 = .ok (.iastore, 1) := by decide +kernel
theorem dX11_alarmOf_92 : decode cX11_alarmOf 92 = .ok (.iload 4, 2) := by decide +kernel
theorem dX11_alarmOf_94 : decode cX11_alarmOf 94 = .ok (.ireturn, 1) := by decide +kernel
set_option maxRecDepth 20000 in
theorem ggX11_askedAlarm_X11_in : GoodIn wsX11_askedAlarm wsX11_in := goodIn_r _ [5] (by decide +kernel) (by decide +kernel)
set_option maxRecDepth 20000 in
theorem gX11_askedAlarm_X11_in : GoodIn wsX11_askedAlarm (va_wsS RX11 182 yX11_in wsX11_in) := goodIn_app (goodIn_of _ (by decide +kernel)) ggX11_askedAlarm_X11_in
set_option maxRecDepth 20000 in
theorem ggX11_askedAlarm_X11_askedCell : GoodIn wsX11_askedAlarm wsX11_askedCell := goodIn_r _ [9, 10, 11, 12, 4, 13, 14, 15, 16, 17, 2, 3, 5, 18, 19, 20, 21, 22, 23, 24, 25, 26, 27, 28, 29, 30, 31, 32, 33, 44, 45, 46, 47, 48, 49, 50, 51, 52, 53, 54, 55, 56, 57, 58, 59, 60, 61, 62, 63, 64, 65, 66, 67, 68, 69, 70, 71, 72, 73, 74, 75, 76, 77, 78, 79, 80, 81, 82, 83, 84, 85, 86, 87, 88, 89, 90, 91, 92, 93, 94, 95, 96, 97, 98, 99, 100, 101, 102, 103, 104, 105, 106, 107, 108, 109] (by decide +kernel) (by decide +kernel)
set_option maxRecDepth 20000 in
theorem gX11_askedAlarm_X11_askedCell : GoodIn wsX11_askedAlarm (wsV RX11 240 RX11 yX11_askedCell wsX11_askedCell) := goodIn_app (goodIn_of _ (by decide +kernel)) ggX11_askedAlarm_X11_askedCell
set_option maxRecDepth 20000 in
theorem ggX11_askedAlarm_X11_allWeights : GoodIn wsX11_askedAlarm wsX11_allWeights := goodIn_r _ [37, 38, 39, 40, 41, 42, 4, 43, 44, 45, 46, 47, 48, 49, 50, 51, 52, 53, 54, 55, 56, 57, 58, 59, 60, 61, 62, 63, 64, 65, 66, 67, 68, 69, 70, 71, 72, 73, 74, 75, 76, 77, 78, 79, 80, 81, 82, 83, 84, 85, 86, 87, 88, 89, 90, 91, 92, 93, 94, 95, 96, 97, 98, 99, 100, 101, 102, 103, 104, 105, 106, 107, 108, 109] (by decide +kernel) (by decide +kernel)
set_option maxRecDepth 20000 in
theorem gX11_askedAlarm_X11_allWeights : GoodIn wsX11_askedAlarm (wsV RX11 372 RX11 yX11_allWeights wsX11_allWeights) := goodIn_app (goodIn_of _ (by decide +kernel)) ggX11_askedAlarm_X11_allWeights
set_option maxRecDepth 20000 in
theorem ggX11_askedAlarm_X11_meets : GoodIn wsX11_askedAlarm wsX11_meets := goodIn_r _ [21, 22, 23, 44, 45, 46, 47, 48, 49, 50, 51, 52, 53, 54, 55, 56, 57, 58, 59, 60, 61, 62, 63, 64, 65, 66, 67, 68, 69, 70, 71, 72, 73, 74, 75, 76, 77, 78, 79, 80, 81, 82, 83, 84, 85, 86, 87, 88, 89, 90, 91, 92, 93, 94, 95, 96, 97, 98, 99, 100, 101, 102, 103, 104, 105, 106, 107, 108, 109] (by decide +kernel) (by decide +kernel)
set_option maxRecDepth 20000 in
theorem gX11_askedAlarm_X11_meets : GoodIn wsX11_askedAlarm (wsV RX11 190 RX11 yX11_meets wsX11_meets) := goodIn_app (goodIn_of _ (by decide +kernel)) ggX11_askedAlarm_X11_meets
theorem dX11_askedAlarm_0 : decode cX11_askedAlarm 0 = .ok (.iload_n 3, 1) := by decide +kernel
theorem dX11_askedAlarm_1 : decode cX11_askedAlarm 1 = .ok (.sipush (-1000), 3) := by decide +kernel
theorem dX11_askedAlarm_4 : decode cX11_askedAlarm 4 = .ok (.ldc_w 371, 3) := by decide +kernel
theorem dX11_askedAlarm_7 : decode cX11_askedAlarm 7 = .ok (.invokestatic 182, 3) := by decide +kernel
theorem dX11_askedAlarm_10 : decode cX11_askedAlarm 10 = .ok (.ifCond .ne 5, 3) := by decide +kernel
theorem dX11_askedAlarm_13 : decode cX11_askedAlarm 13 = .ok (.iconst (-1), 1) := by decide +kernel
theorem dX11_askedAlarm_14 : decode cX11_askedAlarm 14 = .ok (.ireturn, 1) := by decide +kernel
theorem dX11_askedAlarm_15 : decode cX11_askedAlarm 15 = .ok (.aload_n 0, 1) := by decide +kernel
theorem dX11_askedAlarm_16 : decode cX11_askedAlarm 16 = .ok (.iload_n 1, 1) := by decide +kernel
theorem dX11_askedAlarm_17 : decode cX11_askedAlarm 17 = .ok (.iload_n 2, 1) := by decide +kernel
theorem dX11_askedAlarm_18 : decode cX11_askedAlarm 18 = .ok (.invokevirtual 240, 3) := by decide +kernel
theorem dX11_askedAlarm_21 : decode cX11_askedAlarm 21 = .ok (.istore 4, 2) := by decide +kernel
theorem dX11_askedAlarm_23 : decode cX11_askedAlarm 23 = .ok (.iload 4, 2) := by decide +kernel
theorem dX11_askedAlarm_25 : decode cX11_askedAlarm 25 = .ok (.ifCond .ge 8, 3) := by decide +kernel
theorem dX11_askedAlarm_28 : decode cX11_askedAlarm 28 = .ok (.iload 4, 2) := by decide +kernel
theorem dX11_askedAlarm_30 : decode cX11_askedAlarm 30 = .ok (.goto 19, 3) := by decide +kernel
theorem dX11_askedAlarm_33 : decode cX11_askedAlarm 33 = .ok (.aload_n 0, 1) := by decide +kernel
theorem dX11_askedAlarm_34 : decode cX11_askedAlarm 34 = .ok (.invokevirtual 372, 3) := by decide +kernel
theorem dX11_askedAlarm_37 : decode cX11_askedAlarm 37 = .ok (.ifCond .ne 11, 3) := by decide +kernel
theorem dX11_askedAlarm_40 : decode cX11_askedAlarm 40 = .ok (.aload_n 0, 1) := by decide +kernel
theorem dX11_askedAlarm_41 : decode cX11_askedAlarm 41 = .ok (.iconst 4, 1) := by decide +kernel
theorem dX11_askedAlarm_42 : decode cX11_askedAlarm 42 = .ok (.invokevirtual 190, 3) := by decide +kernel
theorem dX11_askedAlarm_45 : decode cX11_askedAlarm 45 = .ok (.goto 4, 3) := by decide +kernel
theorem dX11_askedAlarm_48 : decode cX11_askedAlarm 48 = .ok (.iconst 0, 1) := by decide +kernel
theorem dX11_askedAlarm_49 : decode cX11_askedAlarm 49 = .ok (.ireturn, 1) := by decide +kernel
set_option maxRecDepth 20000 in
theorem ggX11_alarm_X11_askedAlarm : GoodIn wsX11_alarm wsX11_askedAlarm := goodIn_r _ [5, 6, 7, 8, 4, 9, 10, 11, 12, 13, 14, 15, 16, 17, 18, 19, 20, 21, 22, 23, 24, 25, 26, 27, 28, 29, 30, 31, 32, 33, 34, 35, 36, 37, 38, 39, 40, 41, 42, 43, 44, 45, 46, 47, 178, 179, 180, 181, 182, 183, 184, 185, 186, 187, 188, 189, 190, 191, 192, 193, 194, 195, 196, 197, 198, 199, 200, 201, 202, 203, 204, 205, 206, 207, 208, 209, 210, 211, 212, 213, 214, 215, 216, 217, 218, 219, 220, 221, 222, 223, 224, 225, 226, 227, 228, 229, 230, 231, 232, 233, 234, 235, 236, 237, 238, 239, 240, 241, 242, 243] (by decide +kernel) (by decide +kernel)
set_option maxRecDepth 20000 in
theorem gX11_alarm_X11_askedAlarm : GoodIn wsX11_alarm (wsV RX11 375 RX11 yX11_askedAlarm wsX11_askedAlarm) := goodIn_app (goodIn_of _ (by decide +kernel)) ggX11_alarm_X11_askedAlarm
set_option maxRecDepth 20000 in
theorem ggX11_alarm_X11_alarmOf : GoodIn wsX11_alarm wsX11_alarmOf := goodIn_r _ [51, 43, 52, 53, 54, 42, 18, 55, 56, 57, 4, 58, 36, 37, 59, 60, 61, 62, 63, 64, 65, 66, 67, 68, 69, 70, 71, 72, 73, 74, 75, 76, 77, 78, 79, 80, 81, 82, 83, 84, 85, 86, 87, 88, 89, 90, 91, 92, 93, 7, 8, 9, 94, 95, 96, 97, 98, 99, 100, 101, 102, 103, 104, 105, 106, 107, 108, 28, 29, 30, 31, 32, 33, 34, 35, 109, 110, 111, 112, 113, 114, 115, 116, 117, 118, 119, 120, 121, 122, 123, 124, 125, 126, 127, 128, 129, 130, 131, 132, 133, 134, 135, 136, 137, 138, 139, 140, 141, 142, 143, 144, 145, 146, 147, 148, 149, 150, 151, 152, 153, 154, 155, 156, 157, 158, 159, 160, 161, 162, 163, 164, 165, 166, 167, 168, 169, 170, 171, 178, 179, 180, 181, 182, 183, 184, 185, 186, 187, 188, 189, 190, 191, 192, 193, 194, 195, 196, 197, 198, 199, 200, 201, 202, 203, 204, 205, 206, 207, 208, 209, 210, 211, 212, 213, 214, 215, 216, 217, 218, 219, 220, 221, 222, 223, 224, 225, 226, 227, 228, 229, 230, 231, 232, 233, 234, 235, 236, 237, 238, 239, 240, 241, 242, 243] (by decide +kernel) (by decide +kernel)
set_option maxRecDepth 20000 in
theorem gX11_alarm_X11_alarmOf : GoodIn wsX11_alarm (wsV RX11 378 RX11 yX11_alarmOf wsX11_alarmOf) := goodIn_app (goodIn_of _ (by decide +kernel)) ggX11_alarm_X11_alarmOf
set_option maxRecDepth 20000 in
theorem ggX11_alarm_X11_allWeights : GoodIn wsX11_alarm wsX11_allWeights := goodIn_r _ [41, 42, 43, 44, 45, 46, 4, 47, 178, 179, 180, 181, 182, 183, 184, 185, 186, 187, 188, 189, 190, 191, 192, 193, 194, 195, 196, 197, 198, 199, 200, 201, 202, 203, 204, 205, 206, 207, 208, 209, 210, 211, 212, 213, 214, 215, 216, 217, 218, 219, 220, 221, 222, 223, 224, 225, 226, 227, 228, 229, 230, 231, 232, 233, 234, 235, 236, 237, 238, 239, 240, 241, 242, 243] (by decide +kernel) (by decide +kernel)
set_option maxRecDepth 20000 in
theorem gX11_alarm_X11_allWeights : GoodIn wsX11_alarm (wsV RX11 372 RX11 yX11_allWeights wsX11_allWeights) := goodIn_app (goodIn_of _ (by decide +kernel)) ggX11_alarm_X11_allWeights
set_option maxRecDepth 20000 in
theorem ggX11_alarm_X11_tell : GoodIn wsX11_alarm wsX11_tell := goodIn_r _ [175, 176, 177, 178, 179, 180, 181, 182, 183, 184, 185, 186, 187, 188, 189, 190, 191, 192, 193, 194, 195, 196, 197, 198, 199, 200, 201, 202, 203, 204, 205, 206, 207, 208, 209, 210, 211, 212, 213, 214, 215, 216, 217, 218, 219, 220, 221, 222, 223, 224, 225, 226, 227, 228, 229, 230, 231, 232, 233, 234, 235, 236, 237, 238, 239, 240, 241, 242, 243] (by decide +kernel) (by decide +kernel)
set_option maxRecDepth 20000 in
theorem gX11_alarm_X11_tell : GoodIn wsX11_alarm (wsV RX11 381 RX11 yX11_tell wsX11_tell) := goodIn_app (goodIn_of _ (by decide +kernel)) ggX11_alarm_X11_tell
theorem dX11_alarm_0 : decode cX11_alarm 0 = .ok (.aload_n 0, 1) := by decide +kernel
theorem dX11_alarm_1 : decode cX11_alarm 1 = .ok (.iload_n 1, 1) := by decide +kernel
theorem dX11_alarm_2 : decode cX11_alarm 2 = .ok (.iload_n 2, 1) := by decide +kernel
theorem dX11_alarm_3 : decode cX11_alarm 3 = .ok (.iload_n 3, 1) := by decide +kernel
theorem dX11_alarm_4 : decode cX11_alarm 4 = .ok (.invokevirtual 375, 3) := by decide +kernel
theorem dX11_alarm_7 : decode cX11_alarm 7 = .ok (.istore 4, 2) := by decide +kernel
theorem dX11_alarm_9 : decode cX11_alarm 9 = .ok (.iload 4, 2) := by decide +kernel
theorem dX11_alarm_11 : decode cX11_alarm 11 = .ok (.ifCond .ge 8, 3) := by decide +kernel
theorem dX11_alarm_14 : decode cX11_alarm 14 = .ok (.iload 4, 2) := by decide +kernel
theorem dX11_alarm_16 : decode cX11_alarm 16 = .ok (.goto 21, 3) := by decide +kernel
theorem dX11_alarm_19 : decode cX11_alarm 19 = .ok (.aload_n 0, 1) := by decide +kernel
theorem dX11_alarm_20 : decode cX11_alarm 20 = .ok (.aload_n 0, 1) := by decide +kernel
theorem dX11_alarm_21 : decode cX11_alarm 21 = .ok (.iload_n 1, 1) := by decide +kernel
theorem dX11_alarm_22 : decode cX11_alarm 22 = .ok (.iload_n 2, 1) := by decide +kernel
theorem dX11_alarm_23 : decode cX11_alarm 23 = .ok (.iload_n 3, 1) := by decide +kernel
theorem dX11_alarm_24 : decode cX11_alarm 24 = .ok (.invokevirtual 378, 3) := by decide +kernel
theorem dX11_alarm_27 : decode cX11_alarm 27 = .ok (.i2l, 1) := by decide +kernel
theorem dX11_alarm_28 : decode cX11_alarm 28 = .ok (.aload_n 0, 1) := by decide +kernel
theorem dX11_alarm_29 : decode cX11_alarm 29 = .ok (.invokevirtual 372, 3) := by decide +kernel
theorem dX11_alarm_32 : decode cX11_alarm 32 = .ok (.i2l, 1) := by decide +kernel
theorem dX11_alarm_33 : decode cX11_alarm 33 = .ok (.iconst 1, 1) := by decide +kernel
theorem dX11_alarm_34 : decode cX11_alarm 34 = .ok (.invokevirtual 381, 3) := by decide +kernel
theorem dX11_alarm_37 : decode cX11_alarm 37 = .ok (.ireturn, 1) := by decide +kernel
set_option maxRecDepth 20000 in
theorem ggX11_post_X11_askedFace : GoodIn wsX11_post wsX11_askedFace := goodIn_r _ [7, 8, 9, 10, 6, 11, 12, 13, 14, 15, 16, 17, 18, 19, 20, 21, 22, 23, 24, 25, 26, 27, 28, 29, 30, 31, 32, 33, 34, 35, 36, 37, 38, 39, 40, 41, 42, 43, 44, 45, 46, 47, 48, 49, 50, 51, 52, 53, 54, 55, 56, 57, 58, 59, 60, 61, 62, 63, 64, 65, 66, 67, 68, 69, 70, 71, 72, 73, 74, 75, 76, 77, 78, 79, 80, 81, 82, 83, 84, 85, 86, 87, 88, 89, 90, 91, 92, 93, 94, 95, 96, 97, 98, 99, 100, 101, 102, 103, 104] (by decide +kernel) (by decide +kernel)
set_option maxRecDepth 20000 in
theorem gX11_post_X11_askedFace : GoodIn wsX11_post (wsV RX11 249 RX11 yX11_askedFace wsX11_askedFace) := goodIn_app (goodIn_of _ (by decide +kernel)) ggX11_post_X11_askedFace
theorem dX11_post_0 : decode cX11_post 0 = .ok (.aload_n 0, 1) := by decide +kernel
theorem dX11_post_1 : decode cX11_post 1 = .ok (.iload_n 1, 1) := by decide +kernel
theorem dX11_post_2 : decode cX11_post 2 = .ok (.iload_n 2, 1) := by decide +kernel
theorem dX11_post_3 : decode cX11_post 3 = .ok (.invokevirtual 249, 3) := by decide +kernel
theorem dX11_post_6 : decode cX11_post 6 = .ok (.istore_n 3, 1) := by decide +kernel
theorem dX11_post_7 : decode cX11_post 7 = .ok (.iload_n 3, 1) := by decide +kernel
theorem dX11_post_8 : decode cX11_post 8 = .ok (.ifCond .ge 5, 3) := by decide +kernel
theorem dX11_post_11 : decode cX11_post 11 = .ok (.iload_n 3, 1) := by decide +kernel
theorem dX11_post_12 : decode cX11_post 12 = .ok (.ireturn, 1) := by decide +kernel
theorem dX11_post_13 : decode cX11_post 13 = .ok (.aload_n 0, 1) := by decide +kernel
theorem dX11_post_14 : decode cX11_post 14 = .ok (.getfield 83, 3) := by decide +kernel
theorem dX11_post_17 : decode cX11_post 17 = .ok (.iload_n 1, 1) := by decide +kernel
theorem dX11_post_18 : decode cX11_post 18 = .ok (.iaload, 1) := by decide +kernel
theorem dX11_post_19 : decode cX11_post 19 = .ok (.iconst 4, 1) := by decide +kernel
theorem dX11_post_20 : decode cX11_post 20 = .ok (.if_icmp .ne 6, 3) := by decide +kernel
theorem dX11_post_23 : decode cX11_post 23 = .ok (.bipush (-2), 2) := by decide +kernel
theorem dX11_post_25 : decode cX11_post 25 = .ok (.ireturn, 1) := by decide +kernel
theorem dX11_post_26 : decode cX11_post 26 = .ok (.aload_n 0, 1) := by decide +kernel
theorem dX11_post_27 : decode cX11_post 27 = .ok (.getfield 86, 3) := by decide +kernel
theorem dX11_post_30 : decode cX11_post 30 = .ok (.iconst 4, 1) := by decide +kernel
theorem dX11_post_31 : decode cX11_post 31 = .ok (.iload_n 1, 1) := by decide +kernel
theorem dX11_post_32 : decode cX11_post 32 = .ok (.imul, 1) := by decide +kernel
theorem dX11_post_33 : decode cX11_post 33 = .ok (.aload_n 0, 1) := by decide +kernel
theorem dX11_post_34 : decode cX11_post 34 = .ok (.getfield 83, 3) := by decide +kernel
theorem dX11_post_37 : decode cX11_post 37 = .ok (.iload_n 1, 1) := by decide +kernel
theorem dX11_post_38 : decode cX11_post 38 = .ok (.iaload, 1) := by decide +kernel
theorem dX11_post_39 : decode cX11_post 39 = .ok (.iadd, 1) := by decide +kernel
theorem dX11_post_40 : decode cX11_post 40 = .ok (.iload_n 2, 1) := by decide +kernel
theorem dX11_post_41 : decode cX11_post 41 = .ok (.iastore, 1) := by decide +kernel
theorem dX11_post_42 : decode cX11_post 42 = .ok (.aload_n 0, 1) := by decide +kernel
theorem dX11_post_43 : decode cX11_post 43 = .ok (.getfield 83, 3) := by decide +kernel
theorem dX11_post_46 : decode cX11_post 46 = .ok (.iload_n 1, 1) := by decide +kernel
theorem dX11_post_47 : decode cX11_post 47 = .ok (.dup2, 1) := by decide +kernel
theorem dX11_post_48 : decode cX11_post 48 = .ok (.iaload, 1) := by decide +kernel
theorem dX11_post_49 : decode cX11_post 49 = .ok (.iconst 1, 1) := by decide +kernel
theorem dX11_post_50 : decode cX11_post 50 = .ok (.iadd, 1) := by decide +kernel
theorem dX11_post_51 : decode cX11_post 51 = .ok (.iastore, 1) := by decide +kernel
theorem dX11_post_52 : decode cX11_post 52 = .ok (.aload_n 0, 1) := by decide +kernel
theorem dX11_post_53 : decode cX11_post 53 = .ok (.getfield 83, 3) := by decide +kernel
theorem dX11_post_56 : decode cX11_post 56 = .ok (.iload_n 1, 1) := by decide +kernel
theorem dX11_post_57 : decode cX11_post 57 = .ok (.iaload, 1) := by decide +kernel
theorem dX11_post_58 : decode cX11_post 58 = .ok (.ireturn, 1) := by decide +kernel
theorem dX11_bits_0 : decode cX11_bits 0 = .ok (.iconst 0, 1) := by decide +kernel
theorem dX11_bits_1 : decode cX11_bits 1 = .ok (.istore_n 1, 1) := by decide +kernel
theorem dX11_bits_2 : decode cX11_bits 2 = .ok (.iconst 0, 1) := by decide +kernel
theorem dX11_bits_3 : decode cX11_bits 3 = .ok (.istore_n 2, 1) := by decide +kernel
theorem dX11_bits_4 : decode cX11_bits 4 = .ok (.iload_n 2, 1) := by decide +kernel
theorem dX11_bits_5 : decode cX11_bits 5 = .ok (.iconst 4, 1) := by decide +kernel
theorem dX11_bits_6 : decode cX11_bits 6 = .ok (.if_icmp .ge 17, 3) := by decide +kernel
theorem dX11_bits_9 : decode cX11_bits 9 = .ok (.iload_n 1, 1) := by decide +kernel
theorem dX11_bits_10 : decode cX11_bits 10 = .ok (.iload_n 0, 1) := by decide +kernel
theorem dX11_bits_11 : decode cX11_bits 11 = .ok (.iload_n 2, 1) := by decide +kernel
theorem dX11_bits_12 : decode cX11_bits 12 = .ok (.ishr, 1) := by decide +kernel
theorem dX11_bits_13 : decode cX11_bits 13 = .ok (.iconst 1, 1) := by decide +kernel
theorem dX11_bits_14 : decode cX11_bits 14 = .ok (.iand, 1) := by decide +kernel
theorem dX11_bits_15 : decode cX11_bits 15 = .ok (.iadd, 1) := by decide +kernel
theorem dX11_bits_16 : decode cX11_bits 16 = .ok (.istore_n 1, 1) := by decide +kernel
theorem dX11_bits_17 : decode cX11_bits 17 = .ok (.iinc 2 1, 3) := by decide +kernel
theorem dX11_bits_20 : decode cX11_bits 20 = .ok (.goto (-16), 3) := by decide +kernel
theorem dX11_bits_23 : decode cX11_bits 23 = .ok (.iload_n 1, 1) := by decide +kernel
theorem dX11_bits_24 : decode cX11_bits 24 = .ok (.ireturn, 1) := by decide +kernel
set_option maxRecDepth 20000 in
theorem ggX11_gates_X11_askedAlarm : GoodIn wsX11_gates wsX11_askedAlarm := goodIn_r _ [9, 10, 11, 12, 8, 13, 14, 15, 16, 17, 18, 19, 20, 21, 4, 22, 23, 24, 25, 26, 27, 28, 29, 30, 31, 32, 33, 34, 35, 36, 37, 38, 39, 40, 41, 42, 43, 44, 45, 46, 47, 48, 49, 50, 181, 182, 183, 184, 185, 186, 187, 188, 189, 190, 191, 192, 193, 194, 195, 196, 197, 198, 199, 200, 201, 202, 203, 204, 205, 206, 207, 208, 209, 210, 211, 212, 213, 214, 215, 216, 217, 218, 219, 220, 221, 222, 223, 224, 225, 226, 227, 228, 229, 230, 231, 232, 233, 234, 235, 236, 237, 238, 239, 240, 241, 242, 243, 244, 245, 246] (by decide +kernel) (by decide +kernel)
set_option maxRecDepth 20000 in
theorem gX11_gates_X11_askedAlarm : GoodIn wsX11_gates (wsV RX11 375 RX11 yX11_askedAlarm wsX11_askedAlarm) := goodIn_app (goodIn_of _ (by decide +kernel)) ggX11_gates_X11_askedAlarm
set_option maxRecDepth 20000 in
theorem ggX11_gates_X11_bring : GoodIn wsX11_gates wsX11_bring := goodIn_r _ [54, 4, 39, 40, 55, 56, 57, 58, 59, 60, 61, 62, 63, 64, 1, 65, 66, 3, 67, 68, 69, 70, 2, 71, 72, 73, 8, 74, 75, 76, 181, 182, 183, 184, 185, 186, 187, 188, 189, 190, 191, 192, 193, 194, 195, 196, 197, 198, 199, 200, 201, 202, 203, 204, 205, 206, 207, 208, 209, 210, 211, 212, 213, 214, 215, 216, 217, 218, 219, 220, 221, 222, 223, 224, 225, 226, 227, 228, 229, 230, 231, 232, 233, 234, 235, 236, 237, 238, 239, 240, 241, 242, 243, 244, 245, 246] (by decide +kernel) (by decide +kernel)
set_option maxRecDepth 20000 in
theorem gX11_gates_X11_bring : GoodIn wsX11_gates (wsV RX11 299 RX11 yX11_bring wsX11_bring) := goodIn_app (goodIn_of _ (by decide +kernel)) ggX11_gates_X11_bring
set_option maxRecDepth 20000 in
theorem ggX11_gates_X11_alarmOf : GoodIn wsX11_gates wsX11_alarmOf := goodIn_r _ [80, 46, 81, 82, 83, 45, 4, 51, 52, 53, 8, 54, 39, 40, 55, 56, 57, 58, 59, 60, 61, 62, 63, 64, 1, 65, 66, 3, 67, 68, 69, 70, 2, 71, 72, 73, 74, 75, 76, 84, 85, 86, 87, 88, 89, 90, 91, 92, 93, 11, 12, 13, 94, 95, 96, 97, 98, 99, 100, 101, 102, 103, 104, 105, 106, 107, 108, 31, 32, 33, 34, 35, 36, 37, 38, 109, 110, 111, 112, 113, 114, 115, 116, 117, 118, 119, 120, 121, 122, 123, 124, 125, 126, 127, 128, 129, 130, 131, 132, 133, 134, 135, 136, 137, 138, 139, 140, 141, 142, 143, 144, 145, 146, 147, 148, 149, 150, 151, 152, 153, 154, 155, 156, 157, 158, 159, 160, 161, 162, 163, 164, 165, 166, 167, 168, 169, 170, 171, 181, 182, 183, 184, 185, 186, 187, 188, 189, 190, 191, 192, 193, 194, 195, 196, 197, 198, 199, 200, 201, 202, 203, 204, 205, 206, 207, 208, 209, 210, 211, 212, 213, 214, 215, 216, 217, 218, 219, 220, 221, 222, 223, 224, 225, 226, 227, 228, 229, 230, 231, 232, 233, 234, 235, 236, 237, 238, 239, 240, 241, 242, 243, 244, 245, 246] (by decide +kernel) (by decide +kernel)
set_option maxRecDepth 20000 in
theorem gX11_gates_X11_alarmOf : GoodIn wsX11_gates (wsV RX11 378 RX11 yX11_alarmOf wsX11_alarmOf) := goodIn_app (goodIn_of _ (by decide +kernel)) ggX11_gates_X11_alarmOf
set_option maxRecDepth 20000 in
theorem ggX11_gates_X11_bits : GoodIn wsX11_gates wsX11_bits := goodIn_r _ [174] (by decide +kernel) (by decide +kernel)
set_option maxRecDepth 20000 in
theorem gX11_gates_X11_bits : GoodIn wsX11_gates (va_wsS RX11 385 yX11_bits wsX11_bits) := goodIn_app (goodIn_of _ (by decide +kernel)) ggX11_gates_X11_bits
set_option maxRecDepth 20000 in
theorem ggX11_gates_X11_allWeights : GoodIn wsX11_gates wsX11_allWeights := goodIn_r _ [44, 45, 46, 47, 48, 49, 8, 50, 181, 182, 183, 184, 185, 186, 187, 188, 189, 190, 191, 192, 193, 194, 195, 196, 197, 198, 199, 200, 201, 202, 203, 204, 205, 206, 207, 208, 209, 210, 211, 212, 213, 214, 215, 216, 217, 218, 219, 220, 221, 222, 223, 224, 225, 226, 227, 228, 229, 230, 231, 232, 233, 234, 235, 236, 237, 238, 239, 240, 241, 242, 243, 244, 245, 246] (by decide +kernel) (by decide +kernel)
set_option maxRecDepth 20000 in
theorem gX11_gates_X11_allWeights : GoodIn wsX11_gates (wsV RX11 372 RX11 yX11_allWeights wsX11_allWeights) := goodIn_app (goodIn_of _ (by decide +kernel)) ggX11_gates_X11_allWeights
set_option maxRecDepth 20000 in
theorem ggX11_gates_X11_tell : GoodIn wsX11_gates wsX11_tell := goodIn_r _ [178, 179, 180, 181, 182, 183, 184, 185, 186, 187, 188, 189, 190, 191, 192, 193, 194, 195, 196, 197, 198, 199, 200, 201, 202, 203, 204, 205, 206, 207, 208, 209, 210, 211, 212, 213, 214, 215, 216, 217, 218, 219, 220, 221, 222, 223, 224, 225, 226, 227, 228, 229, 230, 231, 232, 233, 234, 235, 236, 237, 238, 239, 240, 241, 242, 243, 244, 245, 246] (by decide +kernel) (by decide +kernel)
set_option maxRecDepth 20000 in
theorem gX11_gates_X11_tell : GoodIn wsX11_gates (wsV RX11 381 RX11 yX11_tell wsX11_tell) := goodIn_app (goodIn_of _ (by decide +kernel)) ggX11_gates_X11_tell
theorem dX11_gates_0 : decode cX11_gates 0 = .ok (.aload_n 0, 1) := by decide +kernel
theorem dX11_gates_1 : decode cX11_gates 1 = .ok (.iload_n 1, 1) := by decide +kernel
theorem dX11_gates_2 : decode cX11_gates 2 = .ok (.iload_n 2, 1) := by decide +kernel
theorem dX11_gates_3 : decode cX11_gates 3 = .ok (.iload_n 3, 1) := by decide +kernel
theorem dX11_gates_4 : decode cX11_gates 4 = .ok (.invokevirtual 375, 3) := by decide +kernel
theorem dX11_gates_7 : decode cX11_gates 7 = .ok (.istore 4, 2) := by decide +kernel
theorem dX11_gates_9 : decode cX11_gates 9 = .ok (.iload 4, 2) := by decide +kernel
theorem dX11_gates_11 : decode cX11_gates 11 = .ok (.ifCond .ge 6, 3) := by decide +kernel
theorem dX11_gates_14 : decode cX11_gates 14 = .ok (.iload 4, 2) := by decide +kernel
theorem dX11_gates_16 : decode cX11_gates 16 = .ok (.ireturn, 1) := by decide +kernel
theorem dX11_gates_17 : decode cX11_gates 17 = .ok (.iconst 0, 1) := by decide +kernel
theorem dX11_gates_18 : decode cX11_gates 18 = .ok (.istore 5, 2) := by decide +kernel
theorem dX11_gates_20 : decode cX11_gates 20 = .ok (.bipush (-9), 2) := by decide +kernel
theorem dX11_gates_22 : decode cX11_gates 22 = .ok (.istore 6, 2) := by decide +kernel
theorem dX11_gates_24 : decode cX11_gates 24 = .ok (.iconst 0, 1) := by decide +kernel
theorem dX11_gates_25 : decode cX11_gates 25 = .ok (.istore 7, 2) := by decide +kernel
theorem dX11_gates_27 : decode cX11_gates 27 = .ok (.iload 7, 2) := by decide +kernel
theorem dX11_gates_29 : decode cX11_gates 29 = .ok (.iconst 1, 1) := by decide +kernel
theorem dX11_gates_30 : decode cX11_gates 30 = .ok (.aload_n 0, 1) := by decide +kernel
theorem dX11_gates_31 : decode cX11_gates 31 = .ok (.getfield 83, 3) := by decide +kernel
theorem dX11_gates_34 : decode cX11_gates 34 = .ok (.iload_n 1, 1) := by decide +kernel
theorem dX11_gates_35 : decode cX11_gates 35 = .ok (.iaload, 1) := by decide +kernel
theorem dX11_gates_36 : decode cX11_gates 36 = .ok (.ishl, 1) := by decide +kernel
theorem dX11_gates_37 : decode cX11_gates 37 = .ok (.if_icmp .ge 118, 3) := by decide +kernel
theorem dX11_gates_40 : decode cX11_gates 40 = .ok (.aload_n 0, 1) := by decide +kernel
theorem dX11_gates_41 : decode cX11_gates 41 = .ok (.iload_n 1, 1) := by decide +kernel
theorem dX11_gates_42 : decode cX11_gates 42 = .ok (.bipush 7, 2) := by decide +kernel
theorem dX11_gates_44 : decode cX11_gates 44 = .ok (.invokevirtual 299, 3) := by decide +kernel
theorem dX11_gates_47 : decode cX11_gates 47 = .ok (.iconst 0, 1) := by decide +kernel
theorem dX11_gates_48 : decode cX11_gates 48 = .ok (.istore 8, 2) := by decide +kernel
theorem dX11_gates_50 : decode cX11_gates 50 = .ok (.iload 8, 2) := by decide +kernel
theorem dX11_gates_52 : decode cX11_gates 52 = .ok (.aload_n 0, 1) := by decide +kernel
theorem dX11_gates_53 : decode cX11_gates 53 = .ok (.getfield 83, 3) := by decide +kernel
theorem dX11_gates_56 : decode cX11_gates 56 = .ok (.iload_n 1, 1) := by decide +kernel
theorem dX11_gates_57 : decode cX11_gates 57 = .ok (.iaload, 1) := by decide +kernel
theorem dX11_gates_58 : decode cX11_gates 58 = .ok (.if_icmp .ge 41, 3) := by decide +kernel
theorem dX11_gates_61 : decode cX11_gates 61 = .ok (.iload 7, 2) := by decide +kernel
theorem dX11_gates_63 : decode cX11_gates 63 = .ok (.iload 8, 2) := by decide +kernel
theorem dX11_gates_65 : decode cX11_gates 65 = .ok (.ishr, 1) := by decide +kernel
theorem dX11_gates_66 : decode cX11_gates 66 = .ok (.iconst 1, 1) := by decide +kernel
theorem dX11_gates_67 : decode cX11_gates 67 = .ok (.iand, 1) := by decide +kernel
theorem dX11_gates_68 : decode cX11_gates 68 = .ok (.iconst 1, 1) := by decide +kernel
theorem dX11_gates_69 : decode cX11_gates 69 = .ok (.if_icmp .ne 24, 3) := by decide +kernel
theorem dX11_gates_72 : decode cX11_gates 72 = .ok (.aload_n 0, 1) := by decide +kernel
theorem dX11_gates_73 : decode cX11_gates 73 = .ok (.getfield 101, 3) := by decide +kernel
theorem dX11_gates_76 : decode cX11_gates 76 = .ok (.sipush 672, 3) := by decide +kernel
theorem dX11_gates_79 : decode cX11_gates 79 = .ok (.aload_n 0, 1) := by decide +kernel
theorem dX11_gates_80 : decode cX11_gates 80 = .ok (.getfield 86, 3) := by decide +kernel
theorem dX11_gates_83 : decode cX11_gates 83 = .ok (.iconst 4, 1) := by decide +kernel
theorem dX11_gates_84 : decode cX11_gates 84 = .ok (.iload_n 1, 1) := by decide +kernel
theorem dX11_gates_85 : decode cX11_gates 85 = .ok (.imul, 1) := by decide +kernel
theorem dX11_gates_86 : decode cX11_gates 86 = .ok (.iload 8, 2) := by decide +kernel
theorem dX11_gates_88 : decode cX11_gates 88 = .ok (.iadd, 1) := by decide +kernel
theorem dX11_gates_89 : decode cX11_gates 89 = .ok (.iaload, 1) := by decide +kernel
theorem dX11_gates_90 : decode cX11_gates 90 = .ok (.iadd, 1) := by decide +kernel
theorem dX11_gates_91 : decode cX11_gates 91 = .ok (.iconst 1, 1) := by decide +kernel
theorem dX11_gates_92 : decode cX11_gates 92 = .ok (.bastore, 1) := by decide +kernel
theorem dX11_gates_93 : decode cX11_gates 93 = .ok (.iinc 8 1, 3) := by decide +kernel
theorem dX11_gates_96 : decode cX11_gates 96 = .ok (.goto (-46), 3) := by decide +kernel
theorem dX11_gates_99 : decode cX11_gates 99 = .ok (.aload_n 0, 1) := by decide +kernel
theorem dX11_gates_100 : decode cX11_gates 100 = .ok (.bipush 7, 2) := by decide +kernel
theorem dX11_gates_102 : decode cX11_gates 102 = .ok (.iload_n 2, 1) := by decide +kernel
theorem dX11_gates_103 : decode cX11_gates 103 = .ok (.iload_n 3, 1) := by decide +kernel
theorem dX11_gates_104 : decode cX11_gates 104 = .ok (.invokevirtual 378, 3) := by decide +kernel
theorem dX11_gates_107 : decode cX11_gates 107 = .ok (.istore 8, 2) := by decide +kernel
theorem dX11_gates_109 : decode cX11_gates 109 = .ok (.iload 6, 2) := by decide +kernel
theorem dX11_gates_111 : decode cX11_gates 111 = .ok (.ifCond .lt 30, 3) := by decide +kernel
theorem dX11_gates_114 : decode cX11_gates 114 = .ok (.iload 8, 2) := by decide +kernel
theorem dX11_gates_116 : decode cX11_gates 116 = .ok (.iload 6, 2) := by decide +kernel
theorem dX11_gates_118 : decode cX11_gates 118 = .ok (.if_icmp .lt 23, 3) := by decide +kernel
theorem dX11_gates_121 : decode cX11_gates 121 = .ok (.iload 8, 2) := by decide +kernel
theorem dX11_gates_123 : decode cX11_gates 123 = .ok (.iload 6, 2) := by decide +kernel
theorem dX11_gates_125 : decode cX11_gates 125 = .ok (.if_icmp .ne 24, 3) := by decide +kernel
theorem dX11_gates_128 : decode cX11_gates 128 = .ok (.iload 7, 2) := by decide +kernel
theorem dX11_gates_130 : decode cX11_gates 130 = .ok (.invokestatic 385, 3) := by decide +kernel
theorem dX11_gates_133 : decode cX11_gates 133 = .ok (.iload 5, 2) := by decide +kernel
theorem dX11_gates_135 : decode cX11_gates 135 = .ok (.invokestatic 385, 3) := by decide +kernel
theorem dX11_gates_138 : decode cX11_gates 138 = .ok (.if_icmp .ge 11, 3) := by decide +kernel
theorem dX11_gates_141 : decode cX11_gates 141 = .ok (.iload 7, 2) := by decide +kernel
theorem dX11_gates_143 : decode cX11_gates 143 = .ok (.istore 5, 2) := by decide +kernel
theorem dX11_gates_145 : decode cX11_gates 145 = .ok (.iload 8, 2) := by decide +kernel
theorem dX11_gates_147 : decode cX11_gates 147 = .ok (.istore 6, 2) := by decide +kernel
theorem dX11_gates_149 : decode cX11_gates 149 = .ok (.iinc 7 1, 3) := by decide +kernel
theorem dX11_gates_152 : decode cX11_gates 152 = .ok (.goto (-125), 3) := by decide +kernel
theorem dX11_gates_155 : decode cX11_gates 155 = .ok (.aload_n 0, 1) := by decide +kernel
theorem dX11_gates_156 : decode cX11_gates 156 = .ok (.getfield 38, 3) := by decide +kernel
theorem dX11_gates_159 : decode cX11_gates 159 = .ok (.bipush 7, 2) := by decide +kernel
theorem dX11_gates_161 : decode cX11_gates 161 = .ok (.bipush (-9), 2) := by decide +kernel
theorem dX11_gates_163 : decode cX11_gates 163 = .ok (.iastore, 1) := by decide +kernel
theorem dX11_gates_164 : decode cX11_gates 164 = .ok (.aload_n 0, 1) := by decide +kernel
theorem dX11_gates_165 : decode cX11_gates 165 = .ok (.iload 6, 2) := by decide +kernel
theorem dX11_gates_167 : decode cX11_gates 167 = .ok (.i2l, 1) := by decide +kernel
theorem dX11_gates_168 : decode cX11_gates 168 = .ok (.aload_n 0, 1) := by decide +kernel
theorem dX11_gates_169 : decode cX11_gates 169 = .ok (.invokevirtual 372, 3) := by decide +kernel
theorem dX11_gates_172 : decode cX11_gates 172 = .ok (.i2l, 1) := by decide +kernel
theorem dX11_gates_173 : decode cX11_gates 173 = .ok (.iload 5, 2) := by decide +kernel
theorem dX11_gates_175 : decode cX11_gates 175 = .ok (.invokevirtual 381, 3) := by decide +kernel
theorem dX11_gates_178 : decode cX11_gates 178 = .ok (.ireturn, 1) := by decide +kernel
theorem dX11_asked_0 : decode cX11_asked 0 = .ok (.aload_n 0, 1) := by decide +kernel
theorem dX11_asked_1 : decode cX11_asked 1 = .ok (.getfield 176, 3) := by decide +kernel
theorem dX11_asked_4 : decode cX11_asked 4 = .ok (.ireturn, 1) := by decide +kernel
theorem dX11_strength_0 : decode cX11_strength 0 = .ok (.aload_n 0, 1) := by decide +kernel
theorem dX11_strength_1 : decode cX11_strength 1 = .ok (.getfield 334, 3) := by decide +kernel
theorem dX11_strength_4 : decode cX11_strength 4 = .ok (.lreturn, 1) := by decide +kernel
theorem dX11_upper_0 : decode cX11_upper 0 = .ok (.aload_n 0, 1) := by decide +kernel
theorem dX11_upper_1 : decode cX11_upper 1 = .ok (.getfield 179, 3) := by decide +kernel
theorem dX11_upper_4 : decode cX11_upper 4 = .ok (.lreturn, 1) := by decide +kernel
theorem dX11_lower_0 : decode cX11_lower 0 = .ok (.aload_n 0, 1) := by decide +kernel
theorem dX11_lower_1 : decode cX11_lower 1 = .ok (.getfield 13, 3) := by decide +kernel
theorem dX11_lower_4 : decode cX11_lower 4 = .ok (.lreturn, 1) := by decide +kernel
set_option maxRecDepth 20000 in
theorem ggX11_count_X11_in : GoodIn wsX11_count wsX11_in := goodIn_r _ [10] (by decide +kernel) (by decide +kernel)
set_option maxRecDepth 20000 in
theorem gX11_count_X11_in : GoodIn wsX11_count (va_wsS RX11 182 yX11_in wsX11_in) := goodIn_app (goodIn_of _ (by decide +kernel)) ggX11_count_X11_in
theorem dX11_count_0 : decode cX11_count 0 = .ok (.iconst 0, 1) := by decide +kernel
theorem dX11_count_1 : decode cX11_count 1 = .ok (.istore_n 2, 1) := by decide +kernel
theorem dX11_count_2 : decode cX11_count 2 = .ok (.iconst 0, 1) := by decide +kernel
theorem dX11_count_3 : decode cX11_count 3 = .ok (.istore_n 3, 1) := by decide +kernel
theorem dX11_count_4 : decode cX11_count 4 = .ok (.iload_n 3, 1) := by decide +kernel
theorem dX11_count_5 : decode cX11_count 5 = .ok (.bipush 6, 2) := by decide +kernel
theorem dX11_count_7 : decode cX11_count 7 = .ok (.if_icmp .ge 58, 3) := by decide +kernel
theorem dX11_count_10 : decode cX11_count 10 = .ok (.iload_n 2, 1) := by decide +kernel
theorem dX11_count_11 : decode cX11_count 11 = .ok (.iload_n 1, 1) := by decide +kernel
theorem dX11_count_12 : decode cX11_count 12 = .ok (.ifCond .ne 12, 3) := by decide +kernel
theorem dX11_count_15 : decode cX11_count 15 = .ok (.aload_n 0, 1) := by decide +kernel
theorem dX11_count_16 : decode cX11_count 16 = .ok (.getfield 17, 3) := by decide +kernel
theorem dX11_count_19 : decode cX11_count 19 = .ok (.iload_n 3, 1) := by decide +kernel
theorem dX11_count_20 : decode cX11_count 20 = .ok (.iaload, 1) := by decide +kernel
theorem dX11_count_21 : decode cX11_count 21 = .ok (.ifCond .ge 31, 3) := by decide +kernel
theorem dX11_count_24 : decode cX11_count 24 = .ok (.iload_n 1, 1) := by decide +kernel
theorem dX11_count_25 : decode cX11_count 25 = .ok (.iconst 1, 1) := by decide +kernel
theorem dX11_count_26 : decode cX11_count 26 = .ok (.if_icmp .ne 12, 3) := by decide +kernel
theorem dX11_count_29 : decode cX11_count 29 = .ok (.aload_n 0, 1) := by decide +kernel
theorem dX11_count_30 : decode cX11_count 30 = .ok (.getfield 26, 3) := by decide +kernel
theorem dX11_count_33 : decode cX11_count 33 = .ok (.iload_n 3, 1) := by decide +kernel
theorem dX11_count_34 : decode cX11_count 34 = .ok (.iaload, 1) := by decide +kernel
theorem dX11_count_35 : decode cX11_count 35 = .ok (.ifCond .ge 17, 3) := by decide +kernel
theorem dX11_count_38 : decode cX11_count 38 = .ok (.iload_n 1, 1) := by decide +kernel
theorem dX11_count_39 : decode cX11_count 39 = .ok (.iconst 2, 1) := by decide +kernel
theorem dX11_count_40 : decode cX11_count 40 = .ok (.if_icmp .ne 16, 3) := by decide +kernel
theorem dX11_count_43 : decode cX11_count 43 = .ok (.aload_n 0, 1) := by decide +kernel
theorem dX11_count_44 : decode cX11_count 44 = .ok (.getfield 38, 3) := by decide +kernel
theorem dX11_count_47 : decode cX11_count 47 = .ok (.iload_n 3, 1) := by decide +kernel
theorem dX11_count_48 : decode cX11_count 48 = .ok (.iaload, 1) := by decide +kernel
theorem dX11_count_49 : decode cX11_count 49 = .ok (.ifCond .lt 7, 3) := by decide +kernel
theorem dX11_count_52 : decode cX11_count 52 = .ok (.iconst 1, 1) := by decide +kernel
theorem dX11_count_53 : decode cX11_count 53 = .ok (.goto 4, 3) := by decide +kernel
theorem dX11_count_56 : decode cX11_count 56 = .ok (.iconst 0, 1) := by decide +kernel
theorem dX11_count_57 : decode cX11_count 57 = .ok (.iadd, 1) := by decide +kernel
theorem dX11_count_58 : decode cX11_count 58 = .ok (.istore_n 2, 1) := by decide +kernel
theorem dX11_count_59 : decode cX11_count 59 = .ok (.iinc 3 1, 3) := by decide +kernel
theorem dX11_count_62 : decode cX11_count 62 = .ok (.goto (-58), 3) := by decide +kernel
theorem dX11_count_65 : decode cX11_count 65 = .ok (.iconst 0, 1) := by decide +kernel
theorem dX11_count_66 : decode cX11_count 66 = .ok (.istore_n 3, 1) := by decide +kernel
theorem dX11_count_67 : decode cX11_count 67 = .ok (.iload_n 3, 1) := by decide +kernel
theorem dX11_count_68 : decode cX11_count 68 = .ok (.bipush 8, 2) := by decide +kernel
theorem dX11_count_70 : decode cX11_count 70 = .ok (.if_icmp .ge 45, 3) := by decide +kernel
theorem dX11_count_73 : decode cX11_count 73 = .ok (.iload_n 2, 1) := by decide +kernel
theorem dX11_count_74 : decode cX11_count 74 = .ok (.iload_n 1, 1) := by decide +kernel
theorem dX11_count_75 : decode cX11_count 75 = .ok (.iconst 3, 1) := by decide +kernel
theorem dX11_count_76 : decode cX11_count 76 = .ok (.if_icmp .ne 12, 3) := by decide +kernel
theorem dX11_count_79 : decode cX11_count 79 = .ok (.aload_n 0, 1) := by decide +kernel
theorem dX11_count_80 : decode cX11_count 80 = .ok (.getfield 132, 3) := by decide +kernel
theorem dX11_count_83 : decode cX11_count 83 = .ok (.iload_n 3, 1) := by decide +kernel
theorem dX11_count_84 : decode cX11_count 84 = .ok (.iaload, 1) := by decide +kernel
theorem dX11_count_85 : decode cX11_count 85 = .ok (.ifCond .ge 17, 3) := by decide +kernel
theorem dX11_count_88 : decode cX11_count 88 = .ok (.iload_n 1, 1) := by decide +kernel
theorem dX11_count_89 : decode cX11_count 89 = .ok (.iconst 4, 1) := by decide +kernel
theorem dX11_count_90 : decode cX11_count 90 = .ok (.if_icmp .ne 16, 3) := by decide +kernel
theorem dX11_count_93 : decode cX11_count 93 = .ok (.aload_n 0, 1) := by decide +kernel
theorem dX11_count_94 : decode cX11_count 94 = .ok (.getfield 141, 3) := by decide +kernel
theorem dX11_count_97 : decode cX11_count 97 = .ok (.iload_n 3, 1) := by decide +kernel
theorem dX11_count_98 : decode cX11_count 98 = .ok (.iaload, 1) := by decide +kernel
theorem dX11_count_99 : decode cX11_count 99 = .ok (.ifCond .lt 7, 3) := by decide +kernel
theorem dX11_count_102 : decode cX11_count 102 = .ok (.iconst 1, 1) := by decide +kernel
theorem dX11_count_103 : decode cX11_count 103 = .ok (.goto 4, 3) := by decide +kernel
theorem dX11_count_106 : decode cX11_count 106 = .ok (.iconst 0, 1) := by decide +kernel
theorem dX11_count_107 : decode cX11_count 107 = .ok (.iadd, 1) := by decide +kernel
theorem dX11_count_108 : decode cX11_count 108 = .ok (.istore_n 2, 1) := by decide +kernel
theorem dX11_count_109 : decode cX11_count 109 = .ok (.iinc 3 1, 3) := by decide +kernel
theorem dX11_count_112 : decode cX11_count 112 = .ok (.goto (-45), 3) := by decide +kernel
theorem dX11_count_115 : decode cX11_count 115 = .ok (.iload_n 1, 1) := by decide +kernel
theorem dX11_count_116 : decode cX11_count 116 = .ok (.iconst 5, 1) := by decide +kernel
theorem dX11_count_117 : decode cX11_count 117 = .ok (.if_icmp .ne 10, 3) := by decide +kernel
theorem dX11_count_120 : decode cX11_count 120 = .ok (.aload_n 0, 1) := by decide +kernel
theorem dX11_count_121 : decode cX11_count 121 = .ok (.getfield 368, 3) := by decide +kernel
theorem dX11_count_124 : decode cX11_count 124 = .ok (.goto 17, 3) := by decide +kernel
theorem dX11_count_127 : decode cX11_count 127 = .ok (.iload_n 1, 1) := by decide +kernel
theorem dX11_count_128 : decode cX11_count 128 = .ok (.iconst 0, 1) := by decide +kernel
theorem dX11_count_129 : decode cX11_count 129 = .ok (.iconst 4, 1) := by decide +kernel
theorem dX11_count_130 : decode cX11_count 130 = .ok (.invokestatic 182, 3) := by decide +kernel
theorem dX11_count_133 : decode cX11_count 133 = .ok (.ifCond .eq 7, 3) := by decide +kernel
theorem dX11_count_136 : decode cX11_count 136 = .ok (.iload_n 2, 1) := by decide +kernel
theorem dX11_count_137 : decode cX11_count 137 = .ok (.goto 4, 3) := by decide +kernel
theorem dX11_count_140 : decode cX11_count 140 = .ok (.iconst (-1), 1) := by decide +kernel
theorem dX11_count_141 : decode cX11_count 141 = .ok (.ireturn, 1) := by decide +kernel
theorem dX11_finding_0 : decode cX11_finding 0 = .ok (.aload_n 0, 1) := by decide +kernel
theorem dX11_finding_1 : decode cX11_finding 1 = .ok (.getfield 172, 3) := by decide +kernel
theorem dX11_finding_4 : decode cX11_finding 4 = .ok (.ireturn, 1) := by decide +kernel
set_option maxRecDepth 20000 in
theorem ggX11_findings_X11_in : GoodIn wsX11_findings wsX11_in := goodIn_r _ [5] (by decide +kernel) (by decide +kernel)
set_option maxRecDepth 20000 in
theorem gX11_findings_X11_in : GoodIn wsX11_findings (va_wsS RX11 182 yX11_in wsX11_in) := goodIn_app (goodIn_of _ (by decide +kernel)) ggX11_findings_X11_in
theorem dX11_findings_0 : decode cX11_findings 0 = .ok (.iload_n 1, 1) := by decide +kernel
theorem dX11_findings_1 : decode cX11_findings 1 = .ok (.iconst 1, 1) := by decide +kernel
theorem dX11_findings_2 : decode cX11_findings 2 = .ok (.iconst 5, 1) := by decide +kernel
theorem dX11_findings_3 : decode cX11_findings 3 = .ok (.invokestatic 182, 3) := by decide +kernel
theorem dX11_findings_6 : decode cX11_findings 6 = .ok (.ifCond .eq 12, 3) := by decide +kernel
theorem dX11_findings_9 : decode cX11_findings 9 = .ok (.aload_n 0, 1) := by decide +kernel
theorem dX11_findings_10 : decode cX11_findings 10 = .ok (.getfield 7, 3) := by decide +kernel
theorem dX11_findings_13 : decode cX11_findings 13 = .ok (.iload_n 1, 1) := by decide +kernel
theorem dX11_findings_14 : decode cX11_findings 14 = .ok (.iaload, 1) := by decide +kernel
theorem dX11_findings_15 : decode cX11_findings 15 = .ok (.goto 4, 3) := by decide +kernel
theorem dX11_findings_18 : decode cX11_findings 18 = .ok (.iconst (-1), 1) := by decide +kernel
theorem dX11_findings_19 : decode cX11_findings 19 = .ok (.ireturn, 1) := by decide +kernel
theorem dX11_mix_0 : decode cX11_mix 0 = .ok (.aload_n 0, 1) := by decide +kernel
theorem dX11_mix_1 : decode cX11_mix 1 = .ok (.ldc2_w 388, 3) := by decide +kernel
theorem dX11_mix_4 : decode cX11_mix 4 = .ok (.aload_n 0, 1) := by decide +kernel
theorem dX11_mix_5 : decode cX11_mix 5 = .ok (.getfield 390, 3) := by decide +kernel
theorem dX11_mix_8 : decode cX11_mix 8 = .ok (.lmul, 1) := by decide +kernel
theorem dX11_mix_9 : decode cX11_mix 9 = .ok (.lload_n 1, 1) := by decide +kernel
theorem dX11_mix_10 : decode cX11_mix 10 = .ok (.ladd, 1) := by decide +kernel
theorem dX11_mix_11 : decode cX11_mix 11 = .ok (.putfield 390, 3) := by decide +kernel
theorem dX11_mix_14 : decode cX11_mix 14 = .ok (.return_, 1) := by decide +kernel
set_option maxRecDepth 20000 in
theorem ggX11_mixBoard_X11_mix : GoodIn wsX11_mixBoard wsX11_mix := goodIn_r _ [12, 13, 14, 47, 48, 49, 50, 51, 52, 53, 54, 55, 56, 57, 58, 59, 60, 61, 62, 63, 64, 65, 66, 67, 68, 69, 70, 71, 72, 73, 74, 75, 76, 77, 78, 79, 80, 81, 82, 83, 84, 85, 86, 87, 88, 89, 90, 91, 92, 93, 94, 95, 96, 97, 98, 99, 100, 101, 102, 103, 104, 105, 106, 107, 108, 109, 110, 111, 112] (by decide +kernel) (by decide +kernel)
set_option maxRecDepth 20000 in
theorem gX11_mixBoard_X11_mix : GoodIn wsX11_mixBoard (wsV RX11 393 RX11 yX11_mix wsX11_mix) := goodIn_app (goodIn_of _ (by decide +kernel)) ggX11_mixBoard_X11_mix
set_option maxRecDepth 20000 in
theorem ggX11_mixBoard_X11_tells : GoodIn wsX11_mixBoard wsX11_tells := goodIn_r _ [18, 1, 19, 20, 21, 4, 22, 23, 5, 24, 25, 26, 11, 27, 28, 29, 30, 31, 32, 33, 34, 35, 47, 48, 49, 50, 51, 52, 53, 54, 55, 56, 57, 58, 59, 60, 61, 62, 63, 64, 65, 66, 67, 68, 69, 70, 71, 72, 73, 74, 75, 76, 77, 78, 79, 80, 81, 82, 83, 84, 85, 86, 87, 88, 89, 90, 91, 92, 93, 94, 95, 96, 97, 98, 99, 100, 101, 102, 103, 104, 105, 106, 107, 108, 109, 110, 111, 112] (by decide +kernel) (by decide +kernel)
set_option maxRecDepth 20000 in
theorem gX11_mixBoard_X11_tells : GoodIn wsX11_mixBoard (wsV RX11 293 RX11 yX11_tells wsX11_tells) := goodIn_app (goodIn_of _ (by decide +kernel)) ggX11_mixBoard_X11_tells
set_option maxRecDepth 20000 in
theorem ggX11_mixBoard_X11_cells : GoodIn wsX11_mixBoard wsX11_cells := goodIn_r _ [27, 19, 20, 47, 48, 49, 50, 51, 52, 53, 54, 55, 56, 57, 58, 59, 60, 61, 62, 63, 64, 65, 66, 67, 68, 69, 70, 71, 72, 73, 74, 75, 76, 77, 78, 79, 80, 81, 82, 83, 84, 85, 86, 87, 88, 89, 90, 91, 92, 93, 94, 95, 96, 97, 98, 99, 100, 101, 102, 103, 104, 105, 106, 107, 108, 109, 110, 111, 112] (by decide +kernel) (by decide +kernel)
set_option maxRecDepth 20000 in
theorem gX11_mixBoard_X11_cells : GoodIn wsX11_mixBoard (wsV RX11 223 RX11 yX11_cells wsX11_cells) := goodIn_app (goodIn_of _ (by decide +kernel)) ggX11_mixBoard_X11_cells
set_option maxRecDepth 20000 in
theorem ggX11_mixBoard_X11_beyond : GoodIn wsX11_mixBoard wsX11_beyond := goodIn_r _ [39, 19, 40, 41, 42, 11, 43, 24, 25, 26, 27, 20, 44, 45, 46, 47, 48, 49, 50, 51, 52, 53, 54, 55, 56, 57, 58, 59, 60, 61, 62, 63, 64, 65, 66, 67, 68, 69, 70, 71, 72, 73, 74, 75, 76, 77, 78, 79, 80, 81, 82, 83, 84, 85, 86, 87, 88, 89, 90, 91, 92, 93, 94, 95, 96, 97, 98, 99, 100, 101, 102, 103, 104, 105, 106, 107, 108, 109, 110, 111, 112] (by decide +kernel) (by decide +kernel)
set_option maxRecDepth 20000 in
theorem gX11_mixBoard_X11_beyond : GoodIn wsX11_mixBoard (wsV RX11 246 RX11 yX11_beyond wsX11_beyond) := goodIn_app (goodIn_of _ (by decide +kernel)) ggX11_mixBoard_X11_beyond
theorem dX11_mixBoard_0 : decode cX11_mixBoard 0 = .ok (.aload_n 0, 1) := by decide +kernel
theorem dX11_mixBoard_1 : decode cX11_mixBoard 1 = .ok (.getfield 38, 3) := by decide +kernel
theorem dX11_mixBoard_4 : decode cX11_mixBoard 4 = .ok (.iload_n 1, 1) := by decide +kernel
theorem dX11_mixBoard_5 : decode cX11_mixBoard 5 = .ok (.iaload, 1) := by decide +kernel
theorem dX11_mixBoard_6 : decode cX11_mixBoard 6 = .ok (.ifCond .ge 11, 3) := by decide +kernel
theorem dX11_mixBoard_9 : decode cX11_mixBoard 9 = .ok (.aload_n 0, 1) := by decide +kernel
theorem dX11_mixBoard_10 : decode cX11_mixBoard 10 = .ok (.ldc2_w 346, 3) := by decide +kernel
theorem dX11_mixBoard_13 : decode cX11_mixBoard 13 = .ok (.invokevirtual 393, 3) := by decide +kernel
theorem dX11_mixBoard_16 : decode cX11_mixBoard 16 = .ok (.return_, 1) := by decide +kernel
theorem dX11_mixBoard_17 : decode cX11_mixBoard 17 = .ok (.iconst 0, 1) := by decide +kernel
theorem dX11_mixBoard_18 : decode cX11_mixBoard 18 = .ok (.istore_n 2, 1) := by decide +kernel
theorem dX11_mixBoard_19 : decode cX11_mixBoard 19 = .ok (.iload_n 2, 1) := by decide +kernel
theorem dX11_mixBoard_20 : decode cX11_mixBoard 20 = .ok (.bipush 10, 2) := by decide +kernel
theorem dX11_mixBoard_22 : decode cX11_mixBoard 22 = .ok (.if_icmp .gt 20, 3) := by decide +kernel
theorem dX11_mixBoard_25 : decode cX11_mixBoard 25 = .ok (.aload_n 0, 1) := by decide +kernel
theorem dX11_mixBoard_26 : decode cX11_mixBoard 26 = .ok (.aload_n 0, 1) := by decide +kernel
theorem dX11_mixBoard_27 : decode cX11_mixBoard 27 = .ok (.iload_n 1, 1) := by decide +kernel
theorem dX11_mixBoard_28 : decode cX11_mixBoard 28 = .ok (.iload_n 2, 1) := by decide +kernel
theorem dX11_mixBoard_29 : decode cX11_mixBoard 29 = .ok (.invokevirtual 293, 3) := by decide +kernel
theorem dX11_mixBoard_32 : decode cX11_mixBoard 32 = .ok (.i2l, 1) := by decide +kernel
theorem dX11_mixBoard_33 : decode cX11_mixBoard 33 = .ok (.invokevirtual 393, 3) := by decide +kernel
theorem dX11_mixBoard_36 : decode cX11_mixBoard 36 = .ok (.iinc 2 1, 3) := by decide +kernel
theorem dX11_mixBoard_39 : decode cX11_mixBoard 39 = .ok (.goto (-20), 3) := by decide +kernel
theorem dX11_mixBoard_42 : decode cX11_mixBoard 42 = .ok (.iconst 0, 1) := by decide +kernel
theorem dX11_mixBoard_43 : decode cX11_mixBoard 43 = .ok (.istore_n 2, 1) := by decide +kernel
theorem dX11_mixBoard_44 : decode cX11_mixBoard 44 = .ok (.iload_n 2, 1) := by decide +kernel
theorem dX11_mixBoard_45 : decode cX11_mixBoard 45 = .ok (.aload_n 0, 1) := by decide +kernel
theorem dX11_mixBoard_46 : decode cX11_mixBoard 46 = .ok (.iload_n 1, 1) := by decide +kernel
theorem dX11_mixBoard_47 : decode cX11_mixBoard 47 = .ok (.invokevirtual 223, 3) := by decide +kernel
theorem dX11_mixBoard_50 : decode cX11_mixBoard 50 = .ok (.if_icmp .ge 76, 3) := by decide +kernel
theorem dX11_mixBoard_53 : decode cX11_mixBoard 53 = .ok (.aload_n 0, 1) := by decide +kernel
theorem dX11_mixBoard_54 : decode cX11_mixBoard 54 = .ok (.aload_n 0, 1) := by decide +kernel
theorem dX11_mixBoard_55 : decode cX11_mixBoard 55 = .ok (.getfield 89, 3) := by decide +kernel
theorem dX11_mixBoard_58 : decode cX11_mixBoard 58 = .ok (.bipush 48, 2) := by decide +kernel
theorem dX11_mixBoard_60 : decode cX11_mixBoard 60 = .ok (.iload_n 1, 1) := by decide +kernel
theorem dX11_mixBoard_61 : decode cX11_mixBoard 61 = .ok (.imul, 1) := by decide +kernel
theorem dX11_mixBoard_62 : decode cX11_mixBoard 62 = .ok (.iload_n 2, 1) := by decide +kernel
theorem dX11_mixBoard_63 : decode cX11_mixBoard 63 = .ok (.iadd, 1) := by decide +kernel
theorem dX11_mixBoard_64 : decode cX11_mixBoard 64 = .ok (.iaload, 1) := by decide +kernel
theorem dX11_mixBoard_65 : decode cX11_mixBoard 65 = .ok (.i2l, 1) := by decide +kernel
theorem dX11_mixBoard_66 : decode cX11_mixBoard 66 = .ok (.invokevirtual 393, 3) := by decide +kernel
theorem dX11_mixBoard_69 : decode cX11_mixBoard 69 = .ok (.aload_n 0, 1) := by decide +kernel
theorem dX11_mixBoard_70 : decode cX11_mixBoard 70 = .ok (.aload_n 0, 1) := by decide +kernel
theorem dX11_mixBoard_71 : decode cX11_mixBoard 71 = .ok (.getfield 92, 3) := by decide +kernel
theorem dX11_mixBoard_74 : decode cX11_mixBoard 74 = .ok (.bipush 48, 2) := by decide +kernel
theorem dX11_mixBoard_76 : decode cX11_mixBoard 76 = .ok (.iload_n 1, 1) := by decide +kernel
theorem dX11_mixBoard_77 : decode cX11_mixBoard 77 = .ok (.imul, 1) := by decide +kernel
theorem dX11_mixBoard_78 : decode cX11_mixBoard 78 = .ok (.iload_n 2, 1) := by decide +kernel
theorem dX11_mixBoard_79 : decode cX11_mixBoard 79 = .ok (.iadd, 1) := by decide +kernel
theorem dX11_mixBoard_80 : decode cX11_mixBoard 80 = .ok (.iaload, 1) := by decide +kernel
theorem dX11_mixBoard_81 : decode cX11_mixBoard 81 = .ok (.i2l, 1) := by decide +kernel
theorem dX11_mixBoard_82 : decode cX11_mixBoard 82 = .ok (.invokevirtual 393, 3) := by decide +kernel
theorem dX11_mixBoard_85 : decode cX11_mixBoard 85 = .ok (.iconst 0, 1) := by decide +kernel
theorem dX11_mixBoard_86 : decode cX11_mixBoard 86 = .ok (.istore_n 3, 1) := by decide +kernel
theorem dX11_mixBoard_87 : decode cX11_mixBoard 87 = .ok (.iload_n 3, 1) := by decide +kernel
theorem dX11_mixBoard_88 : decode cX11_mixBoard 88 = .ok (.iconst 3, 1) := by decide +kernel
theorem dX11_mixBoard_89 : decode cX11_mixBoard 89 = .ok (.if_icmp .ge 31, 3) := by decide +kernel
theorem dX11_mixBoard_92 : decode cX11_mixBoard 92 = .ok (.aload_n 0, 1) := by decide +kernel
theorem dX11_mixBoard_93 : decode cX11_mixBoard 93 = .ok (.aload_n 0, 1) := by decide +kernel
theorem dX11_mixBoard_94 : decode cX11_mixBoard 94 = .ok (.getfield 95, 3) := by decide +kernel
theorem dX11_mixBoard_97 : decode cX11_mixBoard 97 = .ok (.sipush 144, 3) := by decide +kernel
theorem dX11_mixBoard_100 : decode cX11_mixBoard 100 = .ok (.iload_n 1, 1) := by decide +kernel
theorem dX11_mixBoard_101 : decode cX11_mixBoard 101 = .ok (.imul, 1) := by decide +kernel
theorem dX11_mixBoard_102 : decode cX11_mixBoard 102 = .ok (.bipush 48, 2) := by decide +kernel
theorem dX11_mixBoard_104 : decode cX11_mixBoard 104 = .ok (.iload_n 3, 1) := by decide +kernel
theorem dX11_mixBoard_105 : decode cX11_mixBoard 105 = .ok (.imul, 1) := by decide +kernel
theorem dX11_mixBoard_106 : decode cX11_mixBoard 106 = .ok (.iadd, 1) := by decide +kernel
theorem dX11_mixBoard_107 : decode cX11_mixBoard 107 = .ok (.iload_n 2, 1) := by decide +kernel
theorem dX11_mixBoard_108 : decode cX11_mixBoard 108 = .ok (.iadd, 1) := by decide +kernel
theorem dX11_mixBoard_109 : decode cX11_mixBoard 109 = .ok (.iaload, 1) := by decide +kernel
theorem dX11_mixBoard_110 : decode cX11_mixBoard 110 = .ok (.i2l, 1) := by decide +kernel
theorem dX11_mixBoard_111 : decode cX11_mixBoard 111 = .ok (.invokevirtual 393, 3) := by decide +kernel
theorem dX11_mixBoard_114 : decode cX11_mixBoard 114 = .ok (.iinc 3 1, 3) := by decide +kernel
theorem dX11_mixBoard_117 : decode cX11_mixBoard 117 = .ok (.goto (-30), 3) := by decide +kernel
theorem dX11_mixBoard_120 : decode cX11_mixBoard 120 = .ok (.iinc 2 1, 3) := by decide +kernel
theorem dX11_mixBoard_123 : decode cX11_mixBoard 123 = .ok (.goto (-79), 3) := by decide +kernel
theorem dX11_mixBoard_126 : decode cX11_mixBoard 126 = .ok (.iconst 0, 1) := by decide +kernel
theorem dX11_mixBoard_127 : decode cX11_mixBoard 127 = .ok (.istore_n 2, 1) := by decide +kernel
theorem dX11_mixBoard_128 : decode cX11_mixBoard 128 = .ok (.iload_n 2, 1) := by decide +kernel
theorem dX11_mixBoard_129 : decode cX11_mixBoard 129 = .ok (.iconst 2, 1) := by decide +kernel
theorem dX11_mixBoard_130 : decode cX11_mixBoard 130 = .ok (.aload_n 0, 1) := by decide +kernel
theorem dX11_mixBoard_131 : decode cX11_mixBoard 131 = .ok (.iload_n 1, 1) := by decide +kernel
theorem dX11_mixBoard_132 : decode cX11_mixBoard 132 = .ok (.invokevirtual 223, 3) := by decide +kernel
theorem dX11_mixBoard_135 : decode cX11_mixBoard 135 = .ok (.imul, 1) := by decide +kernel
theorem dX11_mixBoard_136 : decode cX11_mixBoard 136 = .ok (.if_icmp .ge 57, 3) := by decide +kernel
theorem dX11_mixBoard_139 : decode cX11_mixBoard 139 = .ok (.aload_n 0, 1) := by decide +kernel
theorem dX11_mixBoard_140 : decode cX11_mixBoard 140 = .ok (.iload_n 1, 1) := by decide +kernel
theorem dX11_mixBoard_141 : decode cX11_mixBoard 141 = .ok (.iload_n 2, 1) := by decide +kernel
theorem dX11_mixBoard_142 : decode cX11_mixBoard 142 = .ok (.invokevirtual 246, 3) := by decide +kernel
theorem dX11_mixBoard_145 : decode cX11_mixBoard 145 = .ok (.ifCond .lt 42, 3) := by decide +kernel
theorem dX11_mixBoard_148 : decode cX11_mixBoard 148 = .ok (.aload_n 0, 1) := by decide +kernel
theorem dX11_mixBoard_149 : decode cX11_mixBoard 149 = .ok (.aload_n 0, 1) := by decide +kernel
theorem dX11_mixBoard_150 : decode cX11_mixBoard 150 = .ok (.getfield 98, 3) := by decide +kernel
theorem dX11_mixBoard_153 : decode cX11_mixBoard 153 = .ok (.bipush 96, 2) := by decide +kernel
theorem dX11_mixBoard_155 : decode cX11_mixBoard 155 = .ok (.iload_n 1, 1) := by decide +kernel
theorem dX11_mixBoard_156 : decode cX11_mixBoard 156 = .ok (.imul, 1) := by decide +kernel
theorem dX11_mixBoard_157 : decode cX11_mixBoard 157 = .ok (.iload_n 2, 1) := by decide +kernel
theorem dX11_mixBoard_158 : decode cX11_mixBoard 158 = .ok (.iadd, 1) := by decide +kernel
theorem dX11_mixBoard_159 : decode cX11_mixBoard 159 = .ok (.iaload, 1) := by decide +kernel
theorem dX11_mixBoard_160 : decode cX11_mixBoard 160 = .ok (.i2l, 1) := by decide +kernel
theorem dX11_mixBoard_161 : decode cX11_mixBoard 161 = .ok (.invokevirtual 393, 3) := by decide +kernel
theorem dX11_mixBoard_164 : decode cX11_mixBoard 164 = .ok (.aload_n 0, 1) := by decide +kernel
theorem dX11_mixBoard_165 : decode cX11_mixBoard 165 = .ok (.aload_n 0, 1) := by decide +kernel
theorem dX11_mixBoard_166 : decode cX11_mixBoard 166 = .ok (.getfield 101, 3) := by decide +kernel
theorem dX11_mixBoard_169 : decode cX11_mixBoard 169 = .ok (.bipush 96, 2) := by decide +kernel
theorem dX11_mixBoard_171 : decode cX11_mixBoard 171 = .ok (.iload_n 1, 1) := by decide +kernel
theorem dX11_mixBoard_172 : decode cX11_mixBoard 172 = .ok (.imul, 1) := by decide +kernel
theorem dX11_mixBoard_173 : decode cX11_mixBoard 173 = .ok (.iload_n 2, 1) := by decide +kernel
theorem dX11_mixBoard_174 : decode cX11_mixBoard 174 = .ok (.iadd, 1) := by decide +kernel
theorem dX11_mixBoard_175 : decode cX11_mixBoard 175 = .ok (.baload, 1) := by decide +kernel
theorem dX11_mixBoard_176 : decode cX11_mixBoard 176 = .ok (.ifCond .eq 7, 3) := by decide +kernel
theorem dX11_mixBoard_179 : decode cX11_mixBoard 179 = .ok (.lconst 1, 1) := by decide +kernel
theorem dX11_mixBoard_180 : decode cX11_mixBoard 180 = .ok (.goto 4, 3) := by decide +kernel
theorem dX11_mixBoard_183 : decode cX11_mixBoard 183 = .ok (.lconst 0, 1) := by decide +kernel
theorem dX11_mixBoard_184 : decode cX11_mixBoard 184 = .ok (.invokevirtual 393, 3) := by decide +kernel
theorem dX11_mixBoard_187 : decode cX11_mixBoard 187 = .ok (.iinc 2 1, 3) := by decide +kernel
theorem dX11_mixBoard_190 : decode cX11_mixBoard 190 = .ok (.goto (-62), 3) := by decide +kernel
theorem dX11_mixBoard_193 : decode cX11_mixBoard 193 = .ok (.return_, 1) := by decide +kernel
set_option maxRecDepth 20000 in
theorem ggX11_mixGauge_X11_mix : GoodIn wsX11_mixGauge wsX11_mix := goodIn_r _ [12, 13, 14, 15, 16, 17, 18, 19, 20, 21, 22, 23, 24, 25, 26, 27, 28, 29, 30, 31, 32, 33, 34, 35, 36, 37, 38, 39, 40, 41, 42, 43, 44, 45, 46, 47, 48, 49, 50, 51, 52, 53, 54, 55, 56, 57, 58, 59, 60, 61, 62, 63, 64, 65, 66, 67, 68, 69, 70, 71, 72, 73, 74, 75, 76, 77, 78, 79, 80] (by decide +kernel) (by decide +kernel)
set_option maxRecDepth 20000 in
theorem gX11_mixGauge_X11_mix : GoodIn wsX11_mixGauge (wsV RX11 393 RX11 yX11_mix wsX11_mix) := goodIn_app (goodIn_of _ (by decide +kernel)) ggX11_mixGauge_X11_mix
theorem dX11_mixGauge_0 : decode cX11_mixGauge 0 = .ok (.aload_n 0, 1) := by decide +kernel
theorem dX11_mixGauge_1 : decode cX11_mixGauge 1 = .ok (.aload_n 0, 1) := by decide +kernel
theorem dX11_mixGauge_2 : decode cX11_mixGauge 2 = .ok (.getfield 141, 3) := by decide +kernel
theorem dX11_mixGauge_5 : decode cX11_mixGauge 5 = .ok (.iload_n 1, 1) := by decide +kernel
theorem dX11_mixGauge_6 : decode cX11_mixGauge 6 = .ok (.iaload, 1) := by decide +kernel
theorem dX11_mixGauge_7 : decode cX11_mixGauge 7 = .ok (.ifCond .ge 9, 3) := by decide +kernel
theorem dX11_mixGauge_10 : decode cX11_mixGauge 10 = .ok (.ldc2_w 346, 3) := by decide +kernel
theorem dX11_mixGauge_13 : decode cX11_mixGauge 13 = .ok (.goto 10, 3) := by decide +kernel
theorem dX11_mixGauge_16 : decode cX11_mixGauge 16 = .ok (.aload_n 0, 1) := by decide +kernel
theorem dX11_mixGauge_17 : decode cX11_mixGauge 17 = .ok (.getfield 141, 3) := by decide +kernel
theorem dX11_mixGauge_20 : decode cX11_mixGauge 20 = .ok (.iload_n 1, 1) := by decide +kernel
theorem dX11_mixGauge_21 : decode cX11_mixGauge 21 = .ok (.iaload, 1) := by decide +kernel
theorem dX11_mixGauge_22 : decode cX11_mixGauge 22 = .ok (.i2l, 1) := by decide +kernel
theorem dX11_mixGauge_23 : decode cX11_mixGauge 23 = .ok (.invokevirtual 393, 3) := by decide +kernel
theorem dX11_mixGauge_26 : decode cX11_mixGauge 26 = .ok (.aload_n 0, 1) := by decide +kernel
theorem dX11_mixGauge_27 : decode cX11_mixGauge 27 = .ok (.getfield 141, 3) := by decide +kernel
theorem dX11_mixGauge_30 : decode cX11_mixGauge 30 = .ok (.iload_n 1, 1) := by decide +kernel
theorem dX11_mixGauge_31 : decode cX11_mixGauge 31 = .ok (.iaload, 1) := by decide +kernel
theorem dX11_mixGauge_32 : decode cX11_mixGauge 32 = .ok (.ifCond .lt 79, 3) := by decide +kernel
theorem dX11_mixGauge_35 : decode cX11_mixGauge 35 = .ok (.aload_n 0, 1) := by decide +kernel
theorem dX11_mixGauge_36 : decode cX11_mixGauge 36 = .ok (.aload_n 0, 1) := by decide +kernel
theorem dX11_mixGauge_37 : decode cX11_mixGauge 37 = .ok (.getfield 144, 3) := by decide +kernel
theorem dX11_mixGauge_40 : decode cX11_mixGauge 40 = .ok (.iload_n 1, 1) := by decide +kernel
theorem dX11_mixGauge_41 : decode cX11_mixGauge 41 = .ok (.iaload, 1) := by decide +kernel
theorem dX11_mixGauge_42 : decode cX11_mixGauge 42 = .ok (.i2l, 1) := by decide +kernel
theorem dX11_mixGauge_43 : decode cX11_mixGauge 43 = .ok (.invokevirtual 393, 3) := by decide +kernel
theorem dX11_mixGauge_46 : decode cX11_mixGauge 46 = .ok (.aload_n 0, 1) := by decide +kernel
theorem dX11_mixGauge_47 : decode cX11_mixGauge 47 = .ok (.aload_n 0, 1) := by decide +kernel
theorem dX11_mixGauge_48 : decode cX11_mixGauge 48 = .ok (.getfield 147, 3) := by decide +kernel
theorem dX11_mixGauge_51 : decode cX11_mixGauge 51 = .ok (.iload_n 1, 1) := by decide +kernel
theorem dX11_mixGauge_52 : decode cX11_mixGauge 52 = .ok (.iaload, 1) := by decide +kernel
theorem dX11_mixGauge_53 : decode cX11_mixGauge 53 = .ok (.i2l, 1) := by decide +kernel
theorem dX11_mixGauge_54 : decode cX11_mixGauge 54 = .ok (.invokevirtual 393, 3) := by decide +kernel
theorem dX11_mixGauge_57 : decode cX11_mixGauge 57 = .ok (.iconst 0, 1) := by decide +kernel
theorem dX11_mixGauge_58 : decode cX11_mixGauge 58 = .ok (.istore_n 2, 1) := by decide +kernel
theorem dX11_mixGauge_59 : decode cX11_mixGauge 59 = .ok (.iload_n 2, 1) := by decide +kernel
theorem dX11_mixGauge_60 : decode cX11_mixGauge 60 = .ok (.aload_n 0, 1) := by decide +kernel
theorem dX11_mixGauge_61 : decode cX11_mixGauge 61 = .ok (.getfield 147, 3) := by decide +kernel
theorem dX11_mixGauge_64 : decode cX11_mixGauge 64 = .ok (.iload_n 1, 1) := by decide +kernel
theorem dX11_mixGauge_65 : decode cX11_mixGauge 65 = .ok (.iaload, 1) := by decide +kernel
theorem dX11_mixGauge_66 : decode cX11_mixGauge 66 = .ok (.if_icmp .ge 45, 3) := by decide +kernel
theorem dX11_mixGauge_69 : decode cX11_mixGauge 69 = .ok (.aload_n 0, 1) := by decide +kernel
theorem dX11_mixGauge_70 : decode cX11_mixGauge 70 = .ok (.aload_n 0, 1) := by decide +kernel
theorem dX11_mixGauge_71 : decode cX11_mixGauge 71 = .ok (.getfield 153, 3) := by decide +kernel
theorem dX11_mixGauge_74 : decode cX11_mixGauge 74 = .ok (.bipush 48, 2) := by decide +kernel
theorem dX11_mixGauge_76 : decode cX11_mixGauge 76 = .ok (.iload_n 1, 1) := by decide +kernel
theorem dX11_mixGauge_77 : decode cX11_mixGauge 77 = .ok (.imul, 1) := by decide +kernel
theorem dX11_mixGauge_78 : decode cX11_mixGauge 78 = .ok (.iload_n 2, 1) := by decide +kernel
theorem dX11_mixGauge_79 : decode cX11_mixGauge 79 = .ok (.iadd, 1) := by decide +kernel
theorem dX11_mixGauge_80 : decode cX11_mixGauge 80 = .ok (.baload, 1) := by decide +kernel
theorem dX11_mixGauge_81 : decode cX11_mixGauge 81 = .ok (.ifCond .eq 9, 3) := by decide +kernel
theorem dX11_mixGauge_84 : decode cX11_mixGauge 84 = .ok (.ldc2_w 397, 3) := by decide +kernel
theorem dX11_mixGauge_87 : decode cX11_mixGauge 87 = .ok (.goto 15, 3) := by decide +kernel
theorem dX11_mixGauge_90 : decode cX11_mixGauge 90 = .ok (.aload_n 0, 1) := by decide +kernel
theorem dX11_mixGauge_91 : decode cX11_mixGauge 91 = .ok (.getfield 150, 3) := by decide +kernel
theorem dX11_mixGauge_94 : decode cX11_mixGauge 94 = .ok (.bipush 48, 2) := by decide +kernel
theorem dX11_mixGauge_96 : decode cX11_mixGauge 96 = .ok (.iload_n 1, 1) := by decide +kernel
theorem dX11_mixGauge_97 : decode cX11_mixGauge 97 = .ok (.imul, 1) := by decide +kernel
theorem dX11_mixGauge_98 : decode cX11_mixGauge 98 = .ok (.iload_n 2, 1) := by decide +kernel
theorem dX11_mixGauge_99 : decode cX11_mixGauge 99 = .ok (.iadd, 1) := by decide +kernel
theorem dX11_mixGauge_100 : decode cX11_mixGauge 100 = .ok (.iaload, 1) := by decide +kernel
theorem dX11_mixGauge_101 : decode cX11_mixGauge 101 = .ok (.i2l, 1) := by decide +kernel
theorem dX11_mixGauge_102 : decode cX11_mixGauge 102 = .ok (.invokevirtual 393, 3) := by decide +kernel
theorem dX11_mixGauge_105 : decode cX11_mixGauge 105 = .ok (.iinc 2 1, 3) := by decide +kernel
theorem dX11_mixGauge_108 : decode cX11_mixGauge 108 = .ok (.goto (-49), 3) := by decide +kernel
theorem dX11_mixGauge_111 : decode cX11_mixGauge 111 = .ok (.return_, 1) := by decide +kernel
set_option maxRecDepth 20000 in
theorem ggX11_digest_X11_mixBoard : GoodIn wsX11_digest wsX11_mixBoard := goodIn_r _ [15, 16, 4, 17, 18, 19, 20, 21, 22, 23, 24, 14, 25, 26, 2, 27, 28, 29, 30, 31, 32, 33, 34, 35, 36, 37, 38, 39, 40, 41, 42, 43, 44, 45, 46, 47, 48, 49, 50, 51, 52, 53, 54, 55, 56, 57, 58, 69, 70, 71, 72, 73, 74, 75, 76, 77, 78, 79, 80, 81, 82, 83, 84, 85, 86, 87, 88, 89, 90, 91, 92, 93, 94, 95, 96, 97, 98, 99, 100, 101, 102, 103, 104, 105, 106, 107, 108, 109, 110, 111, 112, 113, 114, 115, 116, 117, 118, 119, 120, 121, 122, 123, 124, 125, 126, 127, 128, 129, 130, 131, 132, 133, 134] (by decide +kernel) (by decide +kernel)
set_option maxRecDepth 20000 in
theorem gX11_digest_X11_mixBoard : GoodIn wsX11_digest (wsV RX11 401 RX11 yX11_mixBoard wsX11_mixBoard) := goodIn_app (goodIn_of _ (by decide +kernel)) ggX11_digest_X11_mixBoard
set_option maxRecDepth 20000 in
theorem ggX11_digest_X11_mix : GoodIn wsX11_digest wsX11_mix := goodIn_r _ [25, 26, 2, 69, 70, 71, 72, 73, 74, 75, 76, 77, 78, 79, 80, 81, 82, 83, 84, 85, 86, 87, 88, 89, 90, 91, 92, 93, 94, 95, 96, 97, 98, 99, 100, 101, 102, 103, 104, 105, 106, 107, 108, 109, 110, 111, 112, 113, 114, 115, 116, 117, 118, 119, 120, 121, 122, 123, 124, 125, 126, 127, 128, 129, 130, 131, 132, 133, 134] (by decide +kernel) (by decide +kernel)
set_option maxRecDepth 20000 in
theorem gX11_digest_X11_mix : GoodIn wsX11_digest (wsV RX11 393 RX11 yX11_mix wsX11_mix) := goodIn_app (goodIn_of _ (by decide +kernel)) ggX11_digest_X11_mix
set_option maxRecDepth 20000 in
theorem ggX11_digest_X11_mixGauge : GoodIn wsX11_digest wsX11_mixGauge := goodIn_r _ [62, 63, 4, 64, 65, 66, 67, 68, 22, 23, 24, 14, 25, 26, 2, 69, 70, 71, 72, 73, 74, 75, 76, 77, 78, 79, 80, 81, 82, 83, 84, 85, 86, 87, 88, 89, 90, 91, 92, 93, 94, 95, 96, 97, 98, 99, 100, 101, 102, 103, 104, 105, 106, 107, 108, 109, 110, 111, 112, 113, 114, 115, 116, 117, 118, 119, 120, 121, 122, 123, 124, 125, 126, 127, 128, 129, 130, 131, 132, 133, 134] (by decide +kernel) (by decide +kernel)
set_option maxRecDepth 20000 in
theorem gX11_digest_X11_mixGauge : GoodIn wsX11_digest (wsV RX11 404 RX11 yX11_mixGauge wsX11_mixGauge) := goodIn_app (goodIn_of _ (by decide +kernel)) ggX11_digest_X11_mixGauge
theorem dX11_digest_0 : decode cX11_digest 0 = .ok (.aload_n 0, 1) := by decide +kernel
theorem dX11_digest_1 : decode cX11_digest 1 = .ok (.ldc2_w 399, 3) := by decide +kernel
theorem dX11_digest_4 : decode cX11_digest 4 = .ok (.putfield 390, 3) := by decide +kernel
theorem dX11_digest_7 : decode cX11_digest 7 = .ok (.iconst 0, 1) := by decide +kernel
theorem dX11_digest_8 : decode cX11_digest 8 = .ok (.istore_n 1, 1) := by decide +kernel
theorem dX11_digest_9 : decode cX11_digest 9 = .ok (.iload_n 1, 1) := by decide +kernel
theorem dX11_digest_10 : decode cX11_digest 10 = .ok (.bipush 6, 2) := by decide +kernel
theorem dX11_digest_12 : decode cX11_digest 12 = .ok (.if_icmp .ge 14, 3) := by decide +kernel
theorem dX11_digest_15 : decode cX11_digest 15 = .ok (.aload_n 0, 1) := by decide +kernel
theorem dX11_digest_16 : decode cX11_digest 16 = .ok (.iload_n 1, 1) := by decide +kernel
theorem dX11_digest_17 : decode cX11_digest 17 = .ok (.invokevirtual 401, 3) := by decide +kernel
theorem dX11_digest_20 : decode cX11_digest 20 = .ok (.iinc 1 1, 3) := by decide +kernel
theorem dX11_digest_23 : decode cX11_digest 23 = .ok (.goto (-14), 3) := by decide +kernel
theorem dX11_digest_26 : decode cX11_digest 26 = .ok (.iconst 0, 1) := by decide +kernel
theorem dX11_digest_27 : decode cX11_digest 27 = .ok (.istore_n 1, 1) := by decide +kernel
theorem dX11_digest_28 : decode cX11_digest 28 = .ok (.iload_n 1, 1) := by decide +kernel
theorem dX11_digest_29 : decode cX11_digest 29 = .ok (.bipush 8, 2) := by decide +kernel
theorem dX11_digest_31 : decode cX11_digest 31 = .ok (.if_icmp .ge 66, 3) := by decide +kernel
theorem dX11_digest_34 : decode cX11_digest 34 = .ok (.aload_n 0, 1) := by decide +kernel
theorem dX11_digest_35 : decode cX11_digest 35 = .ok (.aload_n 0, 1) := by decide +kernel
theorem dX11_digest_36 : decode cX11_digest 36 = .ok (.getfield 132, 3) := by decide +kernel
theorem dX11_digest_39 : decode cX11_digest 39 = .ok (.iload_n 1, 1) := by decide +kernel
theorem dX11_digest_40 : decode cX11_digest 40 = .ok (.iaload, 1) := by decide +kernel
theorem dX11_digest_41 : decode cX11_digest 41 = .ok (.ifCond .ge 9, 3) := by decide +kernel
theorem dX11_digest_44 : decode cX11_digest 44 = .ok (.ldc2_w 346, 3) := by decide +kernel
theorem dX11_digest_47 : decode cX11_digest 47 = .ok (.goto 10, 3) := by decide +kernel
theorem dX11_digest_50 : decode cX11_digest 50 = .ok (.aload_n 0, 1) := by decide +kernel
theorem dX11_digest_51 : decode cX11_digest 51 = .ok (.getfield 132, 3) := by decide +kernel
theorem dX11_digest_54 : decode cX11_digest 54 = .ok (.iload_n 1, 1) := by decide +kernel
theorem dX11_digest_55 : decode cX11_digest 55 = .ok (.iaload, 1) := by decide +kernel
theorem dX11_digest_56 : decode cX11_digest 56 = .ok (.i2l, 1) := by decide +kernel
theorem dX11_digest_57 : decode cX11_digest 57 = .ok (.invokevirtual 393, 3) := by decide +kernel
theorem dX11_digest_60 : decode cX11_digest 60 = .ok (.aload_n 0, 1) := by decide +kernel
theorem dX11_digest_61 : decode cX11_digest 61 = .ok (.getfield 132, 3) := by decide +kernel
theorem dX11_digest_64 : decode cX11_digest 64 = .ok (.iload_n 1, 1) := by decide +kernel
theorem dX11_digest_65 : decode cX11_digest 65 = .ok (.iaload, 1) := by decide +kernel
theorem dX11_digest_66 : decode cX11_digest 66 = .ok (.ifCond .lt 25, 3) := by decide +kernel
theorem dX11_digest_69 : decode cX11_digest 69 = .ok (.aload_n 0, 1) := by decide +kernel
theorem dX11_digest_70 : decode cX11_digest 70 = .ok (.aload_n 0, 1) := by decide +kernel
theorem dX11_digest_71 : decode cX11_digest 71 = .ok (.getfield 135, 3) := by decide +kernel
theorem dX11_digest_74 : decode cX11_digest 74 = .ok (.iload_n 1, 1) := by decide +kernel
theorem dX11_digest_75 : decode cX11_digest 75 = .ok (.iaload, 1) := by decide +kernel
theorem dX11_digest_76 : decode cX11_digest 76 = .ok (.i2l, 1) := by decide +kernel
theorem dX11_digest_77 : decode cX11_digest 77 = .ok (.invokevirtual 393, 3) := by decide +kernel
theorem dX11_digest_80 : decode cX11_digest 80 = .ok (.aload_n 0, 1) := by decide +kernel
theorem dX11_digest_81 : decode cX11_digest 81 = .ok (.aload_n 0, 1) := by decide +kernel
theorem dX11_digest_82 : decode cX11_digest 82 = .ok (.getfield 138, 3) := by decide +kernel
theorem dX11_digest_85 : decode cX11_digest 85 = .ok (.iload_n 1, 1) := by decide +kernel
theorem dX11_digest_86 : decode cX11_digest 86 = .ok (.iaload, 1) := by decide +kernel
theorem dX11_digest_87 : decode cX11_digest 87 = .ok (.i2l, 1) := by decide +kernel
theorem dX11_digest_88 : decode cX11_digest 88 = .ok (.invokevirtual 393, 3) := by decide +kernel
theorem dX11_digest_91 : decode cX11_digest 91 = .ok (.iinc 1 1, 3) := by decide +kernel
theorem dX11_digest_94 : decode cX11_digest 94 = .ok (.goto (-66), 3) := by decide +kernel
theorem dX11_digest_97 : decode cX11_digest 97 = .ok (.iconst 0, 1) := by decide +kernel
theorem dX11_digest_98 : decode cX11_digest 98 = .ok (.istore_n 1, 1) := by decide +kernel
theorem dX11_digest_99 : decode cX11_digest 99 = .ok (.iload_n 1, 1) := by decide +kernel
theorem dX11_digest_100 : decode cX11_digest 100 = .ok (.bipush 8, 2) := by decide +kernel
theorem dX11_digest_102 : decode cX11_digest 102 = .ok (.if_icmp .ge 14, 3) := by decide +kernel
theorem dX11_digest_105 : decode cX11_digest 105 = .ok (.aload_n 0, 1) := by decide +kernel
theorem dX11_digest_106 : decode cX11_digest 106 = .ok (.iload_n 1, 1) := by decide +kernel
theorem dX11_digest_107 : decode cX11_digest 107 = .ok (.invokevirtual 404, 3) := by decide +kernel
theorem dX11_digest_110 : decode cX11_digest 110 = .ok (.iinc 1 1, 3) := by decide +kernel
theorem dX11_digest_113 : decode cX11_digest 113 = .ok (.goto (-14), 3) := by decide +kernel
theorem dX11_digest_116 : decode cX11_digest 116 = .ok (.iconst 0, 1) := by decide +kernel
theorem dX11_digest_117 : decode cX11_digest 117 = .ok (.istore_n 1, 1) := by decide +kernel
theorem dX11_digest_118 : decode cX11_digest 118 = .ok (.iload_n 1, 1) := by decide +kernel
theorem dX11_digest_119 : decode cX11_digest 119 = .ok (.bipush 6, 2) := by decide +kernel
theorem dX11_digest_121 : decode cX11_digest 121 = .ok (.if_icmp .ge 69, 3) := by decide +kernel
theorem dX11_digest_124 : decode cX11_digest 124 = .ok (.aload_n 0, 1) := by decide +kernel
theorem dX11_digest_125 : decode cX11_digest 125 = .ok (.aload_n 0, 1) := by decide +kernel
theorem dX11_digest_126 : decode cX11_digest 126 = .ok (.getfield 17, 3) := by decide +kernel
theorem dX11_digest_129 : decode cX11_digest 129 = .ok (.iload_n 1, 1) := by decide +kernel
theorem dX11_digest_130 : decode cX11_digest 130 = .ok (.iaload, 1) := by decide +kernel
theorem dX11_digest_131 : decode cX11_digest 131 = .ok (.ifCond .ge 9, 3) := by decide +kernel
theorem dX11_digest_134 : decode cX11_digest 134 = .ok (.ldc2_w 346, 3) := by decide +kernel
theorem dX11_digest_137 : decode cX11_digest 137 = .ok (.goto 10, 3) := by decide +kernel
theorem dX11_digest_140 : decode cX11_digest 140 = .ok (.aload_n 0, 1) := by decide +kernel
theorem dX11_digest_141 : decode cX11_digest 141 = .ok (.getfield 17, 3) := by decide +kernel
theorem dX11_digest_144 : decode cX11_digest 144 = .ok (.iload_n 1, 1) := by decide +kernel
theorem dX11_digest_145 : decode cX11_digest 145 = .ok (.iaload, 1) := by decide +kernel
theorem dX11_digest_146 : decode cX11_digest 146 = .ok (.i2l, 1) := by decide +kernel
theorem dX11_digest_147 : decode cX11_digest 147 = .ok (.invokevirtual 393, 3) := by decide +kernel
theorem dX11_digest_150 : decode cX11_digest 150 = .ok (.iconst 0, 1) := by decide +kernel
theorem dX11_digest_151 : decode cX11_digest 151 = .ok (.istore_n 2, 1) := by decide +kernel
theorem dX11_digest_152 : decode cX11_digest 152 = .ok (.iload_n 2, 1) := by decide +kernel
theorem dX11_digest_153 : decode cX11_digest 153 = .ok (.aload_n 0, 1) := by decide +kernel
theorem dX11_digest_154 : decode cX11_digest 154 = .ok (.getfield 17, 3) := by decide +kernel
theorem dX11_digest_157 : decode cX11_digest 157 = .ok (.iload_n 1, 1) := by decide +kernel
theorem dX11_digest_158 : decode cX11_digest 158 = .ok (.iaload, 1) := by decide +kernel
theorem dX11_digest_159 : decode cX11_digest 159 = .ok (.if_icmp .ge 25, 3) := by decide +kernel
theorem dX11_digest_162 : decode cX11_digest 162 = .ok (.aload_n 0, 1) := by decide +kernel
theorem dX11_digest_163 : decode cX11_digest 163 = .ok (.aload_n 0, 1) := by decide +kernel
theorem dX11_digest_164 : decode cX11_digest 164 = .ok (.getfield 20, 3) := by decide +kernel
theorem dX11_digest_167 : decode cX11_digest 167 = .ok (.bipush 48, 2) := by decide +kernel
theorem dX11_digest_169 : decode cX11_digest 169 = .ok (.iload_n 1, 1) := by decide +kernel
theorem dX11_digest_170 : decode cX11_digest 170 = .ok (.imul, 1) := by decide +kernel
theorem dX11_digest_171 : decode cX11_digest 171 = .ok (.iload_n 2, 1) := by decide +kernel
theorem dX11_digest_172 : decode cX11_digest 172 = .ok (.iadd, 1) := by decide +kernel
theorem dX11_digest_173 : decode cX11_digest 173 = .ok (.iaload, 1) := by decide +kernel
theorem dX11_digest_174 : decode cX11_digest 174 = .ok (.i2l, 1) := by decide +kernel
theorem dX11_digest_175 : decode cX11_digest 175 = .ok (.invokevirtual 393, 3) := by decide +kernel
theorem dX11_digest_178 : decode cX11_digest 178 = .ok (.iinc 2 1, 3) := by decide +kernel
theorem dX11_digest_181 : decode cX11_digest 181 = .ok (.goto (-29), 3) := by decide +kernel
theorem dX11_digest_184 : decode cX11_digest 184 = .ok (.iinc 1 1, 3) := by decide +kernel
theorem dX11_digest_187 : decode cX11_digest 187 = .ok (.goto (-69), 3) := by decide +kernel
theorem dX11_digest_190 : decode cX11_digest 190 = .ok (.iconst 0, 1) := by decide +kernel
theorem dX11_digest_191 : decode cX11_digest 191 = .ok (.istore_n 1, 1) := by decide +kernel
theorem dX11_digest_192 : decode cX11_digest 192 = .ok (.iload_n 1, 1) := by decide +kernel
theorem dX11_digest_193 : decode cX11_digest 193 = .ok (.bipush 6, 2) := by decide +kernel
theorem dX11_digest_195 : decode cX11_digest 195 = .ok (.if_icmp .ge 69, 3) := by decide +kernel
theorem dX11_digest_198 : decode cX11_digest 198 = .ok (.aload_n 0, 1) := by decide +kernel
theorem dX11_digest_199 : decode cX11_digest 199 = .ok (.aload_n 0, 1) := by decide +kernel
theorem dX11_digest_200 : decode cX11_digest 200 = .ok (.getfield 26, 3) := by decide +kernel
theorem dX11_digest_203 : decode cX11_digest 203 = .ok (.iload_n 1, 1) := by decide +kernel
theorem dX11_digest_204 : decode cX11_digest 204 = .ok (.iaload, 1) := by decide +kernel
theorem dX11_digest_205 : decode cX11_digest 205 = .ok (.ifCond .ge 9, 3) := by decide +kernel
theorem dX11_digest_208 : decode cX11_digest 208 = .ok (.ldc2_w 346, 3) := by decide +kernel
theorem dX11_digest_211 : decode cX11_digest 211 = .ok (.goto 10, 3) := by decide +kernel
theorem dX11_digest_214 : decode cX11_digest 214 = .ok (.aload_n 0, 1) := by decide +kernel
theorem dX11_digest_215 : decode cX11_digest 215 = .ok (.getfield 26, 3) := by decide +kernel
theorem dX11_digest_218 : decode cX11_digest 218 = .ok (.iload_n 1, 1) := by decide +kernel
theorem dX11_digest_219 : decode cX11_digest 219 = .ok (.iaload, 1) := by decide +kernel
theorem dX11_digest_220 : decode cX11_digest 220 = .ok (.i2l, 1) := by decide +kernel
theorem dX11_digest_221 : decode cX11_digest 221 = .ok (.invokevirtual 393, 3) := by decide +kernel
theorem dX11_digest_224 : decode cX11_digest 224 = .ok (.iconst 0, 1) := by decide +kernel
theorem dX11_digest_225 : decode cX11_digest 225 = .ok (.istore_n 2, 1) := by decide +kernel
theorem dX11_digest_226 : decode cX11_digest 226 = .ok (.iload_n 2, 1) := by decide +kernel
theorem dX11_digest_227 : decode cX11_digest 227 = .ok (.aload_n 0, 1) := by decide +kernel
theorem dX11_digest_228 : decode cX11_digest 228 = .ok (.getfield 26, 3) := by decide +kernel
theorem dX11_digest_231 : decode cX11_digest 231 = .ok (.iload_n 1, 1) := by decide +kernel
theorem dX11_digest_232 : decode cX11_digest 232 = .ok (.iaload, 1) := by decide +kernel
theorem dX11_digest_233 : decode cX11_digest 233 = .ok (.if_icmp .ge 25, 3) := by decide +kernel
theorem dX11_digest_236 : decode cX11_digest 236 = .ok (.aload_n 0, 1) := by decide +kernel
theorem dX11_digest_237 : decode cX11_digest 237 = .ok (.aload_n 0, 1) := by decide +kernel
theorem dX11_digest_238 : decode cX11_digest 238 = .ok (.getfield 29, 3) := by decide +kernel
theorem dX11_digest_241 : decode cX11_digest 241 = .ok (.bipush 40, 2) := by decide +kernel
theorem dX11_digest_243 : decode cX11_digest 243 = .ok (.iload_n 1, 1) := by decide +kernel
theorem dX11_digest_244 : decode cX11_digest 244 = .ok (.imul, 1) := by decide +kernel
theorem dX11_digest_245 : decode cX11_digest 245 = .ok (.iload_n 2, 1) := by decide +kernel
theorem dX11_digest_246 : decode cX11_digest 246 = .ok (.iadd, 1) := by decide +kernel
theorem dX11_digest_247 : decode cX11_digest 247 = .ok (.iaload, 1) := by decide +kernel
theorem dX11_digest_248 : decode cX11_digest 248 = .ok (.i2l, 1) := by decide +kernel
theorem dX11_digest_249 : decode cX11_digest 249 = .ok (.invokevirtual 393, 3) := by decide +kernel
theorem dX11_digest_252 : decode cX11_digest 252 = .ok (.iinc 2 1, 3) := by decide +kernel
theorem dX11_digest_255 : decode cX11_digest 255 = .ok (.goto (-29), 3) := by decide +kernel
theorem dX11_digest_258 : decode cX11_digest 258 = .ok (.iinc 1 1, 3) := by decide +kernel
theorem dX11_digest_261 : decode cX11_digest 261 = .ok (.goto (-69), 3) := by decide +kernel
theorem dX11_digest_264 : decode cX11_digest 264 = .ok (.aload_n 0, 1) := by decide +kernel
theorem dX11_digest_265 : decode cX11_digest 265 = .ok (.getfield 390, 3) := by decide +kernel
theorem dX11_digest_268 : decode cX11_digest 268 = .ok (.lreturn, 1) := by decide +kernel
