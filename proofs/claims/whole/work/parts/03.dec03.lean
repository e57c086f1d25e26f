theorem dX12_init_0 : decode cX12_init 0 = .ok (.aload_n 0, 1) := by decide +kernel
theorem dX12_init_1 : decode cX12_init 1 = .ok (.invokespecial 1, 3) := by decide +kernel
theorem dX12_init_4 : decode cX12_init 4 = .ok (.aload_n 0, 1) := by decide +kernel
theorem dX12_init_5 : decode cX12_init 5 = .ok (.sipush 20150, 3) := by decide +kernel
theorem dX12_init_8 : decode cX12_init 8 = .ok (.newarray .int, 2) := by decide +kernel
theorem dX12_init_10 : decode cX12_init 10 = .ok (.putfield 7, 3) := by decide +kernel
theorem dX12_init_13 : decode cX12_init 13 = .ok (.aload_n 0, 1) := by decide +kernel
theorem dX12_init_14 : decode cX12_init 14 = .ok (.sipush 20150, 3) := by decide +kernel
theorem dX12_init_17 : decode cX12_init 17 = .ok (.newarray .int, 2) := by decide +kernel
theorem dX12_init_19 : decode cX12_init 19 = .ok (.putfield 13, 3) := by decide +kernel
theorem dX12_init_22 : decode cX12_init 22 = .ok (.aload_n 0, 1) := by decide +kernel
theorem dX12_init_23 : decode cX12_init 23 = .ok (.sipush 300, 3) := by decide +kernel
theorem dX12_init_26 : decode cX12_init 26 = .ok (.newarray .byte, 2) := by decide +kernel
theorem dX12_init_28 : decode cX12_init 28 = .ok (.putfield 16, 3) := by decide +kernel
theorem dX12_init_31 : decode cX12_init 31 = .ok (.aload_n 0, 1) := by decide +kernel
theorem dX12_init_32 : decode cX12_init 32 = .ok (.iconst (-1), 1) := by decide +kernel
theorem dX12_init_33 : decode cX12_init 33 = .ok (.putfield 20, 3) := by decide +kernel
theorem dX12_init_36 : decode cX12_init 36 = .ok (.aload_n 0, 1) := by decide +kernel
theorem dX12_init_37 : decode cX12_init 37 = .ok (.iconst (-1), 1) := by decide +kernel
theorem dX12_init_38 : decode cX12_init 38 = .ok (.putfield 24, 3) := by decide +kernel
theorem dX12_init_41 : decode cX12_init 41 = .ok (.aload_n 0, 1) := by decide +kernel
theorem dX12_init_42 : decode cX12_init 42 = .ok (.iconst 4, 1) := by decide +kernel
theorem dX12_init_43 : decode cX12_init 43 = .ok (.newarray .int, 2) := by decide +kernel
theorem dX12_init_45 : decode cX12_init 45 = .ok (.putfield 27, 3) := by decide +kernel
theorem dX12_init_48 : decode cX12_init 48 = .ok (.aload_n 0, 1) := by decide +kernel
theorem dX12_init_49 : decode cX12_init 49 = .ok (.bipush 96, 2) := by decide +kernel
theorem dX12_init_51 : decode cX12_init 51 = .ok (.newarray .int, 2) := by decide +kernel
theorem dX12_init_53 : decode cX12_init 53 = .ok (.putfield 30, 3) := by decide +kernel
theorem dX12_init_56 : decode cX12_init 56 = .ok (.aload_n 0, 1) := by decide +kernel
theorem dX12_init_57 : decode cX12_init 57 = .ok (.bipush 96, 2) := by decide +kernel
theorem dX12_init_59 : decode cX12_init 59 = .ok (.newarray .int, 2) := by decide +kernel
theorem dX12_init_61 : decode cX12_init 61 = .ok (.putfield 33, 3) := by decide +kernel
theorem dX12_init_64 : decode cX12_init 64 = .ok (.aload_n 0, 1) := by decide +kernel
theorem dX12_init_65 : decode cX12_init 65 = .ok (.bipush 96, 2) := by decide +kernel
theorem dX12_init_67 : decode cX12_init 67 = .ok (.newarray .int, 2) := by decide +kernel
theorem dX12_init_69 : decode cX12_init 69 = .ok (.putfield 36, 3) := by decide +kernel
theorem dX12_init_72 : decode cX12_init 72 = .ok (.aload_n 0, 1) := by decide +kernel
theorem dX12_init_73 : decode cX12_init 73 = .ok (.bipush 96, 2) := by decide +kernel
theorem dX12_init_75 : decode cX12_init 75 = .ok (.newarray .int, 2) := by decide +kernel
theorem dX12_init_77 : decode cX12_init 77 = .ok (.putfield 39, 3) := by decide +kernel
theorem dX12_init_80 : decode cX12_init 80 = .ok (.aload_n 0, 1) := by decide +kernel
theorem dX12_init_81 : decode cX12_init 81 = .ok (.bipush 96, 2) := by decide +kernel
theorem dX12_init_83 : decode cX12_init 83 = .ok (.newarray .int, 2) := by decide +kernel
theorem dX12_init_85 : decode cX12_init 85 = .ok (.putfield 42, 3) := by decide +kernel
theorem dX12_init_88 : decode cX12_init 88 = .ok (.aload_n 0, 1) := by decide +kernel
theorem dX12_init_89 : decode cX12_init 89 = .ok (.sipush 1600, 3) := by decide +kernel
theorem dX12_init_92 : decode cX12_init 92 = .ok (.newarray .int, 2) := by decide +kernel
theorem dX12_init_94 : decode cX12_init 94 = .ok (.putfield 45, 3) := by decide +kernel
theorem dX12_init_97 : decode cX12_init 97 = .ok (.aload_n 0, 1) := by decide +kernel
theorem dX12_init_98 : decode cX12_init 98 = .ok (.sipush 1600, 3) := by decide +kernel
theorem dX12_init_101 : decode cX12_init 101 = .ok (.newarray .int, 2) := by decide +kernel
theorem dX12_init_103 : decode cX12_init 103 = .ok (.putfield 48, 3) := by decide +kernel
theorem dX12_init_106 : decode cX12_init 106 = .ok (.aload_n 0, 1) := by decide +kernel
theorem dX12_init_107 : decode cX12_init 107 = .ok (.bipush 40, 2) := by decide +kernel
theorem dX12_init_109 : decode cX12_init 109 = .ok (.newarray .int, 2) := by decide +kernel
theorem dX12_init_111 : decode cX12_init 111 = .ok (.putfield 51, 3) := by decide +kernel
theorem dX12_init_114 : decode cX12_init 114 = .ok (.aload_n 0, 1) := by decide +kernel
theorem dX12_init_115 : decode cX12_init 115 = .ok (.bipush 41, 2) := by decide +kernel
theorem dX12_init_117 : decode cX12_init 117 = .ok (.newarray .int, 2) := by decide +kernel
theorem dX12_init_119 : decode cX12_init 119 = .ok (.putfield 54, 3) := by decide +kernel
theorem dX12_init_122 : decode cX12_init 122 = .ok (.aload_n 0, 1) := by decide +kernel
theorem dX12_init_123 : decode cX12_init 123 = .ok (.bipush 80, 2) := by decide +kernel
theorem dX12_init_125 : decode cX12_init 125 = .ok (.newarray .int, 2) := by decide +kernel
theorem dX12_init_127 : decode cX12_init 127 = .ok (.putfield 57, 3) := by decide +kernel
theorem dX12_init_130 : decode cX12_init 130 = .ok (.aload_n 0, 1) := by decide +kernel
theorem dX12_init_131 : decode cX12_init 131 = .ok (.bipush 80, 2) := by decide +kernel
theorem dX12_init_133 : decode cX12_init 133 = .ok (.newarray .int, 2) := by decide +kernel
theorem dX12_init_135 : decode cX12_init 135 = .ok (.putfield 60, 3) := by decide +kernel
theorem dX12_init_138 : decode cX12_init 138 = .ok (.aload_n 0, 1) := by decide +kernel
theorem dX12_init_139 : decode cX12_init 139 = .ok (.bipush 41, 2) := by decide +kernel
theorem dX12_init_141 : decode cX12_init 141 = .ok (.newarray .int, 2) := by decide +kernel
theorem dX12_init_143 : decode cX12_init 143 = .ok (.putfield 63, 3) := by decide +kernel
theorem dX12_init_146 : decode cX12_init 146 = .ok (.aload_n 0, 1) := by decide +kernel
theorem dX12_init_147 : decode cX12_init 147 = .ok (.bipush 24, 2) := by decide +kernel
theorem dX12_init_149 : decode cX12_init 149 = .ok (.newarray .int, 2) := by decide +kernel
theorem dX12_init_151 : decode cX12_init 151 = .ok (.putfield 66, 3) := by decide +kernel
theorem dX12_init_154 : decode cX12_init 154 = .ok (.aload_n 0, 1) := by decide +kernel
theorem dX12_init_155 : decode cX12_init 155 = .ok (.bipush 24, 2) := by decide +kernel
theorem dX12_init_157 : decode cX12_init 157 = .ok (.newarray .int, 2) := by decide +kernel
theorem dX12_init_159 : decode cX12_init 159 = .ok (.putfield 69, 3) := by decide +kernel
theorem dX12_init_162 : decode cX12_init 162 = .ok (.aload_n 0, 1) := by decide +kernel
theorem dX12_init_163 : decode cX12_init 163 = .ok (.bipush 24, 2) := by decide +kernel
theorem dX12_init_165 : decode cX12_init 165 = .ok (.newarray .int, 2) := by decide +kernel
theorem dX12_init_167 : decode cX12_init 167 = .ok (.putfield 72, 3) := by decide +kernel
theorem dX12_init_170 : decode cX12_init 170 = .ok (.aload_n 0, 1) := by decide +kernel
theorem dX12_init_171 : decode cX12_init 171 = .ok (.bipush 24, 2) := by decide +kernel
theorem dX12_init_173 : decode cX12_init 173 = .ok (.newarray .int, 2) := by decide +kernel
theorem dX12_init_175 : decode cX12_init 175 = .ok (.putfield 75, 3) := by decide +kernel
theorem dX12_init_178 : decode cX12_init 178 = .ok (.aload_n 0, 1) := by decide +kernel
theorem dX12_init_179 : decode cX12_init 179 = .ok (.bipush 24, 2) := by decide +kernel
theorem dX12_init_181 : decode cX12_init 181 = .ok (.newarray .int, 2) := by decide +kernel
theorem dX12_init_183 : decode cX12_init 183 = .ok (.putfield 78, 3) := by decide +kernel
theorem dX12_init_186 : decode cX12_init 186 = .ok (.aload_n 0, 1) := by decide +kernel
theorem dX12_init_187 : decode cX12_init 187 = .ok (.sipush 400, 3) := by decide +kernel
theorem dX12_init_190 : decode cX12_init 190 = .ok (.newarray .int, 2) := by decide +kernel
theorem dX12_init_192 : decode cX12_init 192 = .ok (.putfield 81, 3) := by decide +kernel
theorem dX12_init_195 : decode cX12_init 195 = .ok (.aload_n 0, 1) := by decide +kernel
theorem dX12_init_196 : decode cX12_init 196 = .ok (.sipush 400, 3) := by decide +kernel
theorem dX12_init_199 : decode cX12_init 199 = .ok (.newarray .int, 2) := by decide +kernel
theorem dX12_init_201 : decode cX12_init 201 = .ok (.putfield 84, 3) := by decide +kernel
theorem dX12_init_204 : decode cX12_init 204 = .ok (.aload_n 0, 1) := by decide +kernel
theorem dX12_init_205 : decode cX12_init 205 = .ok (.bipush 11, 2) := by decide +kernel
theorem dX12_init_207 : decode cX12_init 207 = .ok (.newarray .int, 2) := by decide +kernel
theorem dX12_init_209 : decode cX12_init 209 = .ok (.putfield 87, 3) := by decide +kernel
theorem dX12_init_212 : decode cX12_init 212 = .ok (.aload_n 0, 1) := by decide +kernel
theorem dX12_init_213 : decode cX12_init 213 = .ok (.sipush 200, 3) := by decide +kernel
theorem dX12_init_216 : decode cX12_init 216 = .ok (.newarray .long, 2) := by decide +kernel
theorem dX12_init_218 : decode cX12_init 218 = .ok (.putfield 90, 3) := by decide +kernel
theorem dX12_init_221 : decode cX12_init 221 = .ok (.aload_n 0, 1) := by decide +kernel
theorem dX12_init_222 : decode cX12_init 222 = .ok (.iconst 4, 1) := by decide +kernel
theorem dX12_init_223 : decode cX12_init 223 = .ok (.newarray .int, 2) := by decide +kernel
theorem dX12_init_225 : decode cX12_init 225 = .ok (.putfield 94, 3) := by decide +kernel
theorem dX12_init_228 : decode cX12_init 228 = .ok (.aload_n 0, 1) := by decide +kernel
theorem dX12_init_229 : decode cX12_init 229 = .ok (.iconst 4, 1) := by decide +kernel
theorem dX12_init_230 : decode cX12_init 230 = .ok (.newarray .int, 2) := by decide +kernel
theorem dX12_init_232 : decode cX12_init 232 = .ok (.putfield 97, 3) := by decide +kernel
theorem dX12_init_235 : decode cX12_init 235 = .ok (.aload_n 0, 1) := by decide +kernel
theorem dX12_init_236 : decode cX12_init 236 = .ok (.iconst 4, 1) := by decide +kernel
theorem dX12_init_237 : decode cX12_init 237 = .ok (.newarray .int, 2) := by decide +kernel
theorem dX12_init_239 : decode cX12_init 239 = .ok (.putfield 100, 3) := by decide +kernel
theorem dX12_init_242 : decode cX12_init 242 = .ok (.aload_n 0, 1) := by decide +kernel
theorem dX12_init_243 : decode cX12_init 243 = .ok (.iconst 4, 1) := by decide +kernel
theorem dX12_init_244 : decode cX12_init 244 = .ok (.newarray .int, 2) := by decide +kernel
theorem dX12_init_246 : decode cX12_init 246 = .ok (.putfield 103, 3) := by decide +kernel
theorem dX12_init_249 : decode cX12_init 249 = .ok (.aload_n 0, 1) := by decide +kernel
theorem dX12_init_250 : decode cX12_init 250 = .ok (.iconst 4, 1) := by decide +kernel
theorem dX12_init_251 : decode cX12_init 251 = .ok (.newarray .int, 2) := by decide +kernel
theorem dX12_init_253 : decode cX12_init 253 = .ok (.putfield 106, 3) := by decide +kernel
theorem dX12_init_256 : decode cX12_init 256 = .ok (.aload_n 0, 1) := by decide +kernel
theorem dX12_init_257 : decode cX12_init 257 = .ok (.iconst 4, 1) := by decide +kernel
theorem dX12_init_258 : decode cX12_init 258 = .ok (.newarray .int, 2) := by decide +kernel
theorem dX12_init_260 : decode cX12_init 260 = .ok (.putfield 109, 3) := by decide +kernel
theorem dX12_init_263 : decode cX12_init 263 = .ok (.aload_n 0, 1) := by decide +kernel
theorem dX12_init_264 : decode cX12_init 264 = .ok (.iconst 4, 1) := by decide +kernel
theorem dX12_init_265 : decode cX12_init 265 = .ok (.newarray .int, 2) := by decide +kernel
theorem dX12_init_267 : decode cX12_init 267 = .ok (.putfield 112, 3) := by decide +kernel
theorem dX12_init_270 : decode cX12_init 270 = .ok (.aload_n 0, 1) := by decide +kernel
theorem dX12_init_271 : decode cX12_init 271 = .ok (.iconst 4, 1) := by decide +kernel
theorem dX12_init_272 : decode cX12_init 272 = .ok (.newarray .int, 2) := by decide +kernel
theorem dX12_init_274 : decode cX12_init 274 = .ok (.putfield 115, 3) := by decide +kernel
theorem dX12_init_277 : decode cX12_init 277 = .ok (.aload_n 0, 1) := by decide +kernel
theorem dX12_init_278 : decode cX12_init 278 = .ok (.iconst 4, 1) := by decide +kernel
theorem dX12_init_279 : decode cX12_init 279 = .ok (.newarray .int, 2) := by decide +kernel
theorem dX12_init_281 : decode cX12_init 281 = .ok (.putfield 118, 3) := by decide +kernel
theorem dX12_init_284 : decode cX12_init 284 = .ok (.aload_n 0, 1) := by decide +kernel
theorem dX12_init_285 : decode cX12_init 285 = .ok (.iconst 4, 1) := by decide +kernel
theorem dX12_init_286 : decode cX12_init 286 = .ok (.newarray .int, 2) := by decide +kernel
theorem dX12_init_288 : decode cX12_init 288 = .ok (.putfield 121, 3) := by decide +kernel
theorem dX12_init_291 : decode cX12_init 291 = .ok (.aload_n 0, 1) := by decide +kernel
theorem dX12_init_292 : decode cX12_init 292 = .ok (.iconst 4, 1) := by decide +kernel
theorem dX12_init_293 : decode cX12_init 293 = .ok (.newarray .int, 2) := by decide +kernel
theorem dX12_init_295 : decode cX12_init 295 = .ok (.putfield 124, 3) := by decide +kernel
theorem dX12_init_298 : decode cX12_init 298 = .ok (.aload_n 0, 1) := by decide +kernel
theorem dX12_init_299 : decode cX12_init 299 = .ok (.iconst 4, 1) := by decide +kernel
theorem dX12_init_300 : decode cX12_init 300 = .ok (.newarray .int, 2) := by decide +kernel
theorem dX12_init_302 : decode cX12_init 302 = .ok (.putfield 127, 3) := by decide +kernel
theorem dX12_init_305 : decode cX12_init 305 = .ok (.aload_n 0, 1) := by decide +kernel
theorem dX12_init_306 : decode cX12_init 306 = .ok (.iconst 4, 1) := by decide +kernel
theorem dX12_init_307 : decode cX12_init 307 = .ok (.newarray .int, 2) := by decide +kernel
theorem dX12_init_309 : decode cX12_init 309 = .ok (.putfield 130, 3) := by decide +kernel
theorem dX12_init_312 : decode cX12_init 312 = .ok (.aload_n 0, 1) := by decide +kernel
theorem dX12_init_313 : decode cX12_init 313 = .ok (.bipush 16, 2) := by decide +kernel
theorem dX12_init_315 : decode cX12_init 315 = .ok (.newarray .int, 2) := by decide +kernel
theorem dX12_init_317 : decode cX12_init 317 = .ok (.putfield 133, 3) := by decide +kernel
theorem dX12_init_320 : decode cX12_init 320 = .ok (.aload_n 0, 1) := by decide +kernel
theorem dX12_init_321 : decode cX12_init 321 = .ok (.bipush 64, 2) := by decide +kernel
theorem dX12_init_323 : decode cX12_init 323 = .ok (.newarray .int, 2) := by decide +kernel
theorem dX12_init_325 : decode cX12_init 325 = .ok (.putfield 136, 3) := by decide +kernel
theorem dX12_init_328 : decode cX12_init 328 = .ok (.aload_n 0, 1) := by decide +kernel
theorem dX12_init_329 : decode cX12_init 329 = .ok (.iconst 2, 1) := by decide +kernel
theorem dX12_init_330 : decode cX12_init 330 = .ok (.newarray .int, 2) := by decide +kernel
theorem dX12_init_332 : decode cX12_init 332 = .ok (.putfield 139, 3) := by decide +kernel
theorem dX12_init_335 : decode cX12_init 335 = .ok (.aload_n 0, 1) := by decide +kernel
theorem dX12_init_336 : decode cX12_init 336 = .ok (.sipush 2200, 3) := by decide +kernel
theorem dX12_init_339 : decode cX12_init 339 = .ok (.newarray .int, 2) := by decide +kernel
theorem dX12_init_341 : decode cX12_init 341 = .ok (.putfield 142, 3) := by decide +kernel
theorem dX12_init_344 : decode cX12_init 344 = .ok (.aload_n 0, 1) := by decide +kernel
theorem dX12_init_345 : decode cX12_init 345 = .ok (.sipush 2200, 3) := by decide +kernel
theorem dX12_init_348 : decode cX12_init 348 = .ok (.newarray .int, 2) := by decide +kernel
theorem dX12_init_350 : decode cX12_init 350 = .ok (.putfield 145, 3) := by decide +kernel
theorem dX12_init_353 : decode cX12_init 353 = .ok (.aload_n 0, 1) := by decide +kernel
theorem dX12_init_354 : decode cX12_init 354 = .ok (.sipush 2200, 3) := by decide +kernel
theorem dX12_init_357 : decode cX12_init 357 = .ok (.newarray .int, 2) := by decide +kernel
theorem dX12_init_359 : decode cX12_init 359 = .ok (.putfield 148, 3) := by decide +kernel
theorem dX12_init_362 : decode cX12_init 362 = .ok (.aload_n 0, 1) := by decide +kernel
theorem dX12_init_363 : decode cX12_init 363 = .ok (.sipush 2200, 3) := by decide +kernel
theorem dX12_init_366 : decode cX12_init 366 = .ok (.newarray .int, 2) := by decide +kernel
theorem dX12_init_368 : decode cX12_init 368 = .ok (.putfield 151, 3) := by decide +kernel
theorem dX12_init_371 : decode cX12_init 371 = .ok (.aload_n 0, 1) := by decide +kernel
theorem dX12_init_372 : decode cX12_init 372 = .ok (.iconst 2, 1) := by decide +kernel
theorem dX12_init_373 : decode cX12_init 373 = .ok (.newarray .int, 2) := by decide +kernel
theorem dX12_init_375 : decode cX12_init 375 = .ok (.putfield 154, 3) := by decide +kernel
theorem dX12_init_378 : decode cX12_init 378 = .ok (.aload_n 0, 1) := by decide +kernel
theorem dX12_init_379 : decode cX12_init 379 = .ok (.iconst 2, 1) := by decide +kernel
theorem dX12_init_380 : decode cX12_init 380 = .ok (.newarray .int, 2) := by decide +kernel
theorem dX12_init_382 : decode cX12_init 382 = .ok (.putfield 157, 3) := by decide +kernel
theorem dX12_init_385 : decode cX12_init 385 = .ok (.aload_n 0, 1) := by decide +kernel
theorem dX12_init_386 : decode cX12_init 386 = .ok (.iconst 2, 1) := by decide +kernel
theorem dX12_init_387 : decode cX12_init 387 = .ok (.newarray .int, 2) := by decide +kernel
theorem dX12_init_389 : decode cX12_init 389 = .ok (.putfield 160, 3) := by decide +kernel
theorem dX12_init_392 : decode cX12_init 392 = .ok (.aload_n 0, 1) := by decide +kernel
theorem dX12_init_393 : decode cX12_init 393 = .ok (.iconst 2, 1) := by decide +kernel
theorem dX12_init_394 : decode cX12_init 394 = .ok (.newarray .int, 2) := by decide +kernel
theorem dX12_init_396 : decode cX12_init 396 = .ok (.putfield 163, 3) := by decide +kernel
theorem dX12_init_399 : decode cX12_init 399 = .ok (.aload_n 0, 1) := by decide +kernel
theorem dX12_init_400 : decode cX12_init 400 = .ok (.sipush 600, 3) := by decide +kernel
theorem dX12_init_403 : decode cX12_init 403 = .ok (.newarray .int, 2) := by decide +kernel
theorem dX12_init_405 : decode cX12_init 405 = .ok (.putfield 166, 3) := by decide +kernel
theorem dX12_init_408 : decode cX12_init 408 = .ok (.aload_n 0, 1) := by decide +kernel
theorem dX12_init_409 : decode cX12_init 409 = .ok (.getfield 7, 3) := by decide +kernel
theorem dX12_init_412 : decode cX12_init 412 = .ok (.iconst 2, 1) := by decide +kernel
theorem dX12_init_413 : decode cX12_init 413 = .ok (.iconst (-1), 1) := by decide +kernel
theorem dX12_init_414 : decode cX12_init 414 = .ok (.iastore, 1) := by decide +kernel
theorem dX12_init_415 : decode cX12_init 415 = .ok (.aload_n 0, 1) := by decide +kernel
theorem dX12_init_416 : decode cX12_init 416 = .ok (.getfield 7, 3) := by decide +kernel
theorem dX12_init_419 : decode cX12_init 419 = .ok (.bipush 92, 2) := by decide +kernel
theorem dX12_init_421 : decode cX12_init 421 = .ok (.bipush 13, 2) := by decide +kernel
theorem dX12_init_423 : decode cX12_init 423 = .ok (.iastore, 1) := by decide +kernel
theorem dX12_init_424 : decode cX12_init 424 = .ok (.iconst 0, 1) := by decide +kernel
theorem dX12_init_425 : decode cX12_init 425 = .ok (.istore_n 1, 1) := by decide +kernel
theorem dX12_init_426 : decode cX12_init 426 = .ok (.iload_n 1, 1) := by decide +kernel
theorem dX12_init_427 : decode cX12_init 427 = .ok (.iconst 4, 1) := by decide +kernel
theorem dX12_init_428 : decode cX12_init 428 = .ok (.if_icmp .ge 29, 3) := by decide +kernel
theorem dX12_init_431 : decode cX12_init 431 = .ok (.aload_n 0, 1) := by decide +kernel
theorem dX12_init_432 : decode cX12_init 432 = .ok (.getfield 7, 3) := by decide +kernel
theorem dX12_init_435 : decode cX12_init 435 = .ok (.bipush 109, 2) := by decide +kernel
theorem dX12_init_437 : decode cX12_init 437 = .ok (.iload_n 1, 1) := by decide +kernel
theorem dX12_init_438 : decode cX12_init 438 = .ok (.iadd, 1) := by decide +kernel
theorem dX12_init_439 : decode cX12_init 439 = .ok (.iconst (-1), 1) := by decide +kernel
theorem dX12_init_440 : decode cX12_init 440 = .ok (.iastore, 1) := by decide +kernel
theorem dX12_init_441 : decode cX12_init 441 = .ok (.aload_n 0, 1) := by decide +kernel
theorem dX12_init_442 : decode cX12_init 442 = .ok (.getfield 7, 3) := by decide +kernel
theorem dX12_init_445 : decode cX12_init 445 = .ok (.bipush 113, 2) := by decide +kernel
theorem dX12_init_447 : decode cX12_init 447 = .ok (.iload_n 1, 1) := by decide +kernel
theorem dX12_init_448 : decode cX12_init 448 = .ok (.iadd, 1) := by decide +kernel
theorem dX12_init_449 : decode cX12_init 449 = .ok (.iconst (-1), 1) := by decide +kernel
theorem dX12_init_450 : decode cX12_init 450 = .ok (.iastore, 1) := by decide +kernel
theorem dX12_init_451 : decode cX12_init 451 = .ok (.iinc 1 1, 3) := by decide +kernel
theorem dX12_init_454 : decode cX12_init 454 = .ok (.goto (-28), 3) := by decide +kernel
theorem dX12_init_457 : decode cX12_init 457 = .ok (.aload_n 0, 1) := by decide +kernel
theorem dX12_init_458 : decode cX12_init 458 = .ok (.iconst 1, 1) := by decide +kernel
theorem dX12_init_459 : decode cX12_init 459 = .ok (.invokevirtual 169, 3) := by decide +kernel
theorem dX12_init_462 : decode cX12_init 462 = .ok (.return_, 1) := by decide +kernel
theorem dX12_in_0 : decode cX12_in 0 = .ok (.iload_n 0, 1) := by decide +kernel
theorem dX12_in_1 : decode cX12_in 1 = .ok (.iload_n 1, 1) := by decide +kernel
theorem dX12_in_2 : decode cX12_in 2 = .ok (.if_icmp .lt 12, 3) := by decide +kernel
theorem dX12_in_5 : decode cX12_in 5 = .ok (.iload_n 0, 1) := by decide +kernel
theorem dX12_in_6 : decode cX12_in 6 = .ok (.iload_n 2, 1) := by decide +kernel
theorem dX12_in_7 : decode cX12_in 7 = .ok (.if_icmp .gt 7, 3) := by decide +kernel
theorem dX12_in_10 : decode cX12_in 10 = .ok (.iconst 1, 1) := by decide +kernel
theorem dX12_in_11 : decode cX12_in 11 = .ok (.goto 4, 3) := by decide +kernel
theorem dX12_in_14 : decode cX12_in 14 = .ok (.iconst 0, 1) := by decide +kernel
theorem dX12_in_15 : decode cX12_in 15 = .ok (.ireturn, 1) := by decide +kernel
theorem dX12_copies_0 : decode cX12_copies 0 = .ok (.iconst 0, 1) := by decide +kernel
theorem dX12_copies_1 : decode cX12_copies 1 = .ok (.istore_n 2, 1) := by decide +kernel
theorem dX12_copies_2 : decode cX12_copies 2 = .ok (.iload_n 2, 1) := by decide +kernel
theorem dX12_copies_3 : decode cX12_copies 3 = .ok (.sipush 20150, 3) := by decide +kernel
theorem dX12_copies_6 : decode cX12_copies 6 = .ok (.if_icmp .ge 40, 3) := by decide +kernel
theorem dX12_copies_9 : decode cX12_copies 9 = .ok (.iload_n 1, 1) := by decide +kernel
theorem dX12_copies_10 : decode cX12_copies 10 = .ok (.ifCond .eq 18, 3) := by decide +kernel
theorem dX12_copies_13 : decode cX12_copies 13 = .ok (.aload_n 0, 1) := by decide +kernel
theorem dX12_copies_14 : decode cX12_copies 14 = .ok (.getfield 13, 3) := by decide +kernel
theorem dX12_copies_17 : decode cX12_copies 17 = .ok (.iload_n 2, 1) := by decide +kernel
theorem dX12_copies_18 : decode cX12_copies 18 = .ok (.aload_n 0, 1) := by decide +kernel
theorem dX12_copies_19 : decode cX12_copies 19 = .ok (.getfield 7, 3) := by decide +kernel
theorem dX12_copies_22 : decode cX12_copies 22 = .ok (.iload_n 2, 1) := by decide +kernel
theorem dX12_copies_23 : decode cX12_copies 23 = .ok (.iaload, 1) := by decide +kernel
theorem dX12_copies_24 : decode cX12_copies 24 = .ok (.iastore, 1) := by decide +kernel
theorem dX12_copies_25 : decode cX12_copies 25 = .ok (.goto 15, 3) := by decide +kernel
theorem dX12_copies_28 : decode cX12_copies 28 = .ok (.aload_n 0, 1) := by decide +kernel
theorem dX12_copies_29 : decode cX12_copies 29 = .ok (.getfield 7, 3) := by decide +kernel
theorem dX12_copies_32 : decode cX12_copies 32 = .ok (.iload_n 2, 1) := by decide +kernel
theorem dX12_copies_33 : decode cX12_copies 33 = .ok (.aload_n 0, 1) := by decide +kernel
theorem dX12_copies_34 : decode cX12_copies 34 = .ok (.getfield 13, 3) := by decide +kernel
theorem dX12_copies_37 : decode cX12_copies 37 = .ok (.iload_n 2, 1) := by decide +kernel
theorem dX12_copies_38 : decode cX12_copies 38 = .ok (.iaload, 1) := by decide +kernel
theorem dX12_copies_39 : decode cX12_copies 39 = .ok (.iastore, 1) := by decide +kernel
theorem dX12_copies_40 : decode cX12_copies 40 = .ok (.iinc 2 1, 3) := by decide +kernel
theorem dX12_copies_43 : decode cX12_copies 43 = .ok (.goto (-41), 3) := by decide +kernel
theorem dX12_copies_46 : decode cX12_copies 46 = .ok (.return_, 1) := by decide +kernel
theorem dX12_isEnd_0 : decode cX12_isEnd 0 = .ok (.iload_n 1, 1) := by decide +kernel
theorem dX12_isEnd_1 : decode cX12_isEnd 1 = .ok (.iconst 0, 1) := by decide +kernel
theorem dX12_isEnd_2 : decode cX12_isEnd 2 = .ok (.aload_n 0, 1) := by decide +kernel
theorem dX12_isEnd_3 : decode cX12_isEnd 3 = .ok (.getfield 7, 3) := by decide +kernel
theorem dX12_isEnd_6 : decode cX12_isEnd 6 = .ok (.iconst 0, 1) := by decide +kernel
theorem dX12_isEnd_7 : decode cX12_isEnd 7 = .ok (.iaload, 1) := by decide +kernel
theorem dX12_isEnd_8 : decode cX12_isEnd 8 = .ok (.iconst 1, 1) := by decide +kernel
theorem dX12_isEnd_9 : decode cX12_isEnd 9 = .ok (.isub, 1) := by decide +kernel
theorem dX12_isEnd_10 : decode cX12_isEnd 10 = .ok (.invokestatic 173, 3) := by decide +kernel
theorem dX12_isEnd_13 : decode cX12_isEnd 13 = .ok (.ireturn, 1) := by decide +kernel
theorem dX12_told_0 : decode cX12_told 0 = .ok (.aload_n 0, 1) := by decide +kernel
theorem dX12_told_1 : decode cX12_told 1 = .ok (.getfield 7, 3) := by decide +kernel
theorem dX12_told_4 : decode cX12_told 4 = .ok (.bipush 12, 2) := by decide +kernel
theorem dX12_told_6 : decode cX12_told 6 = .ok (.iconst 4, 1) := by decide +kernel
theorem dX12_told_7 : decode cX12_told 7 = .ok (.iload_n 1, 1) := by decide +kernel
theorem dX12_told_8 : decode cX12_told 8 = .ok (.imul, 1) := by decide +kernel
theorem dX12_told_9 : decode cX12_told 9 = .ok (.iadd, 1) := by decide +kernel
theorem dX12_told_10 : decode cX12_told 10 = .ok (.iload_n 2, 1) := by decide +kernel
theorem dX12_told_11 : decode cX12_told 11 = .ok (.iadd, 1) := by decide +kernel
theorem dX12_told_12 : decode cX12_told 12 = .ok (.iaload, 1) := by decide +kernel
theorem dX12_told_13 : decode cX12_told 13 = .ok (.ireturn, 1) := by decide +kernel
theorem dX12_delayOf_0 : decode cX12_delayOf 0 = .ok (.aload_n 0, 1) := by decide +kernel
theorem dX12_delayOf_1 : decode cX12_delayOf 1 = .ok (.getfield 7, 3) := by decide +kernel
theorem dX12_delayOf_4 : decode cX12_delayOf 4 = .ok (.bipush 117, 2) := by decide +kernel
theorem dX12_delayOf_6 : decode cX12_delayOf 6 = .ok (.iconst 4, 1) := by decide +kernel
theorem dX12_delayOf_7 : decode cX12_delayOf 7 = .ok (.iload_n 1, 1) := by decide +kernel
theorem dX12_delayOf_8 : decode cX12_delayOf 8 = .ok (.imul, 1) := by decide +kernel
theorem dX12_delayOf_9 : decode cX12_delayOf 9 = .ok (.iadd, 1) := by decide +kernel
theorem dX12_delayOf_10 : decode cX12_delayOf 10 = .ok (.iload_n 2, 1) := by decide +kernel
theorem dX12_delayOf_11 : decode cX12_delayOf 11 = .ok (.iadd, 1) := by decide +kernel
theorem dX12_delayOf_12 : decode cX12_delayOf 12 = .ok (.iaload, 1) := by decide +kernel
theorem dX12_delayOf_13 : decode cX12_delayOf 13 = .ok (.ireturn, 1) := by decide +kernel
theorem dX12_ofTurn_0 : decode cX12_ofTurn 0 = .ok (.aload_n 0, 1) := by decide +kernel
theorem dX12_ofTurn_1 : decode cX12_ofTurn 1 = .ok (.getfield 7, 3) := by decide +kernel
theorem dX12_ofTurn_4 : decode cX12_ofTurn 4 = .ok (.sipush 166, 3) := by decide +kernel
theorem dX12_ofTurn_7 : decode cX12_ofTurn 7 = .ok (.iconst 5, 1) := by decide +kernel
theorem dX12_ofTurn_8 : decode cX12_ofTurn 8 = .ok (.iload_n 1, 1) := by decide +kernel
theorem dX12_ofTurn_9 : decode cX12_ofTurn 9 = .ok (.imul, 1) := by decide +kernel
theorem dX12_ofTurn_10 : decode cX12_ofTurn 10 = .ok (.iadd, 1) := by decide +kernel
theorem dX12_ofTurn_11 : decode cX12_ofTurn 11 = .ok (.iload_n 2, 1) := by decide +kernel
theorem dX12_ofTurn_12 : decode cX12_ofTurn 12 = .ok (.iadd, 1) := by decide +kernel
theorem dX12_ofTurn_13 : decode cX12_ofTurn 13 = .ok (.iaload, 1) := by decide +kernel
theorem dX12_ofTurn_14 : decode cX12_ofTurn 14 = .ok (.ireturn, 1) := by decide +kernel
theorem dX12_refuses_0 : decode cX12_refuses 0 = .ok (.aload_n 0, 1) := by decide +kernel
theorem dX12_refuses_1 : decode cX12_refuses 1 = .ok (.getfield 7, 3) := by decide +kernel
theorem dX12_refuses_4 : decode cX12_refuses 4 = .ok (.bipush 9, 2) := by decide +kernel
theorem dX12_refuses_6 : decode cX12_refuses 6 = .ok (.iload_n 1, 1) := by decide +kernel
theorem dX12_refuses_7 : decode cX12_refuses 7 = .ok (.iadd, 1) := by decide +kernel
theorem dX12_refuses_8 : decode cX12_refuses 8 = .ok (.dup2, 1) := by decide +kernel
theorem dX12_refuses_9 : decode cX12_refuses 9 = .ok (.iaload, 1) := by decide +kernel
theorem dX12_refuses_10 : decode cX12_refuses 10 = .ok (.iconst 1, 1) := by decide +kernel
theorem dX12_refuses_11 : decode cX12_refuses 11 = .ok (.iadd, 1) := by decide +kernel
theorem dX12_refuses_12 : decode cX12_refuses 12 = .ok (.iastore, 1) := by decide +kernel
theorem dX12_refuses_13 : decode cX12_refuses 13 = .ok (.iload_n 2, 1) := by decide +kernel
theorem dX12_refuses_14 : decode cX12_refuses 14 = .ok (.ireturn, 1) := by decide +kernel
theorem dX12_refusesIt_0 : decode cX12_refusesIt 0 = .ok (.aload_n 0, 1) := by decide +kernel
theorem dX12_refusesIt_1 : decode cX12_refusesIt 1 = .ok (.getfield 7, 3) := by decide +kernel
theorem dX12_refusesIt_4 : decode cX12_refusesIt 4 = .ok (.bipush 9, 2) := by decide +kernel
theorem dX12_refusesIt_6 : decode cX12_refusesIt 6 = .ok (.iload_n 1, 1) := by decide +kernel
theorem dX12_refusesIt_7 : decode cX12_refusesIt 7 = .ok (.iadd, 1) := by decide +kernel
theorem dX12_refusesIt_8 : decode cX12_refusesIt 8 = .ok (.dup2, 1) := by decide +kernel
theorem dX12_refusesIt_9 : decode cX12_refusesIt 9 = .ok (.iaload, 1) := by decide +kernel
theorem dX12_refusesIt_10 : decode cX12_refusesIt 10 = .ok (.iconst 1, 1) := by decide +kernel
theorem dX12_refusesIt_11 : decode cX12_refusesIt 11 = .ok (.iadd, 1) := by decide +kernel
theorem dX12_refusesIt_12 : decode cX12_refusesIt 12 = .ok (.iastore, 1) := by decide +kernel
theorem dX12_refusesIt_13 : decode cX12_refusesIt 13 = .ok (.iconst 0, 1) := by decide +kernel
theorem dX12_refusesIt_14 : decode cX12_refusesIt 14 = .ok (.ireturn, 1) := by decide +kernel
theorem dX12_tellEnd_0 : decode cX12_tellEnd 0 = .ok (.aload_n 0, 1) := by decide +kernel
theorem dX12_tellEnd_1 : decode cX12_tellEnd 1 = .ok (.getfield 7, 3) := by decide +kernel
theorem dX12_tellEnd_4 : decode cX12_tellEnd 4 = .ok (.iconst 0, 1) := by decide +kernel
theorem dX12_tellEnd_5 : decode cX12_tellEnd 5 = .ok (.iaload, 1) := by decide +kernel
theorem dX12_tellEnd_6 : decode cX12_tellEnd 6 = .ok (.istore 5, 2) := by decide +kernel
theorem dX12_tellEnd_8 : decode cX12_tellEnd 8 = .ok (.iload_n 1, 1) := by decide +kernel
theorem dX12_tellEnd_9 : decode cX12_tellEnd 9 = .ok (.iconst 0, 1) := by decide +kernel
theorem dX12_tellEnd_10 : decode cX12_tellEnd 10 = .ok (.bipush 99, 2) := by decide +kernel
theorem dX12_tellEnd_12 : decode cX12_tellEnd 12 = .ok (.invokestatic 173, 3) := by decide +kernel
theorem dX12_tellEnd_15 : decode cX12_tellEnd 15 = .ok (.ifCond .eq 34, 3) := by decide +kernel
theorem dX12_tellEnd_18 : decode cX12_tellEnd 18 = .ok (.iload_n 2, 1) := by decide +kernel
theorem dX12_tellEnd_19 : decode cX12_tellEnd 19 = .ok (.iconst 0, 1) := by decide +kernel
theorem dX12_tellEnd_20 : decode cX12_tellEnd 20 = .ok (.bipush 24, 2) := by decide +kernel
theorem dX12_tellEnd_22 : decode cX12_tellEnd 22 = .ok (.invokestatic 173, 3) := by decide +kernel
theorem dX12_tellEnd_25 : decode cX12_tellEnd 25 = .ok (.ifCond .eq 24, 3) := by decide +kernel
theorem dX12_tellEnd_28 : decode cX12_tellEnd 28 = .ok (.iload_n 3, 1) := by decide +kernel
theorem dX12_tellEnd_29 : decode cX12_tellEnd 29 = .ok (.iconst 0, 1) := by decide +kernel
theorem dX12_tellEnd_30 : decode cX12_tellEnd 30 = .ok (.bipush 99, 2) := by decide +kernel
theorem dX12_tellEnd_32 : decode cX12_tellEnd 32 = .ok (.invokestatic 173, 3) := by decide +kernel
theorem dX12_tellEnd_35 : decode cX12_tellEnd 35 = .ok (.ifCond .eq 14, 3) := by decide +kernel
theorem dX12_tellEnd_38 : decode cX12_tellEnd 38 = .ok (.iload 4, 2) := by decide +kernel
theorem dX12_tellEnd_40 : decode cX12_tellEnd 40 = .ok (.iconst 1, 1) := by decide +kernel
theorem dX12_tellEnd_41 : decode cX12_tellEnd 41 = .ok (.bipush 99, 2) := by decide +kernel
theorem dX12_tellEnd_43 : decode cX12_tellEnd 43 = .ok (.invokestatic 173, 3) := by decide +kernel
theorem dX12_tellEnd_46 : decode cX12_tellEnd 46 = .ok (.ifCond .ne 10, 3) := by decide +kernel
theorem dX12_tellEnd_49 : decode cX12_tellEnd 49 = .ok (.aload_n 0, 1) := by decide +kernel
theorem dX12_tellEnd_50 : decode cX12_tellEnd 50 = .ok (.iconst 0, 1) := by decide +kernel
theorem dX12_tellEnd_51 : decode cX12_tellEnd 51 = .ok (.iconst (-1), 1) := by decide +kernel
theorem dX12_tellEnd_52 : decode cX12_tellEnd 52 = .ok (.invokevirtual 177, 3) := by decide +kernel
theorem dX12_tellEnd_55 : decode cX12_tellEnd 55 = .ok (.ireturn, 1) := by decide +kernel
theorem dX12_tellEnd_56 : decode cX12_tellEnd 56 = .ok (.iload 5, 2) := by decide +kernel
theorem dX12_tellEnd_58 : decode cX12_tellEnd 58 = .ok (.iconst 4, 1) := by decide +kernel
theorem dX12_tellEnd_59 : decode cX12_tellEnd 59 = .ok (.if_icmp .ne 10, 3) := by decide +kernel
theorem dX12_tellEnd_62 : decode cX12_tellEnd 62 = .ok (.aload_n 0, 1) := by decide +kernel
theorem dX12_tellEnd_63 : decode cX12_tellEnd 63 = .ok (.iconst 1, 1) := by decide +kernel
theorem dX12_tellEnd_64 : decode cX12_tellEnd 64 = .ok (.iconst (-1), 1) := by decide +kernel
theorem dX12_tellEnd_65 : decode cX12_tellEnd 65 = .ok (.invokevirtual 177, 3) := by decide +kernel
theorem dX12_tellEnd_68 : decode cX12_tellEnd 68 = .ok (.ireturn, 1) := by decide +kernel
theorem dX12_tellEnd_69 : decode cX12_tellEnd 69 = .ok (.aload_n 0, 1) := by decide +kernel
theorem dX12_tellEnd_70 : decode cX12_tellEnd 70 = .ok (.getfield 7, 3) := by decide +kernel
theorem dX12_tellEnd_73 : decode cX12_tellEnd 73 = .ok (.bipush 12, 2) := by decide +kernel
theorem dX12_tellEnd_75 : decode cX12_tellEnd 75 = .ok (.iconst 4, 1) := by decide +kernel
theorem dX12_tellEnd_76 : decode cX12_tellEnd 76 = .ok (.iload 5, 2) := by decide +kernel
theorem dX12_tellEnd_78 : decode cX12_tellEnd 78 = .ok (.imul, 1) := by decide +kernel
theorem dX12_tellEnd_79 : decode cX12_tellEnd 79 = .ok (.iadd, 1) := by decide +kernel
theorem dX12_tellEnd_80 : decode cX12_tellEnd 80 = .ok (.iconst 0, 1) := by decide +kernel
theorem dX12_tellEnd_81 : decode cX12_tellEnd 81 = .ok (.iadd, 1) := by decide +kernel
theorem dX12_tellEnd_82 : decode cX12_tellEnd 82 = .ok (.iload_n 1, 1) := by decide +kernel
theorem dX12_tellEnd_83 : decode cX12_tellEnd 83 = .ok (.iastore, 1) := by decide +kernel
theorem dX12_tellEnd_84 : decode cX12_tellEnd 84 = .ok (.aload_n 0, 1) := by decide +kernel
theorem dX12_tellEnd_85 : decode cX12_tellEnd 85 = .ok (.getfield 7, 3) := by decide +kernel
theorem dX12_tellEnd_88 : decode cX12_tellEnd 88 = .ok (.bipush 12, 2) := by decide +kernel
theorem dX12_tellEnd_90 : decode cX12_tellEnd 90 = .ok (.iconst 4, 1) := by decide +kernel
theorem dX12_tellEnd_91 : decode cX12_tellEnd 91 = .ok (.iload 5, 2) := by decide +kernel
theorem dX12_tellEnd_93 : decode cX12_tellEnd 93 = .ok (.imul, 1) := by decide +kernel
theorem dX12_tellEnd_94 : decode cX12_tellEnd 94 = .ok (.iadd, 1) := by decide +kernel
theorem dX12_tellEnd_95 : decode cX12_tellEnd 95 = .ok (.iconst 1, 1) := by decide +kernel
theorem dX12_tellEnd_96 : decode cX12_tellEnd 96 = .ok (.iadd, 1) := by decide +kernel
theorem dX12_tellEnd_97 : decode cX12_tellEnd 97 = .ok (.iload_n 2, 1) := by decide +kernel
theorem dX12_tellEnd_98 : decode cX12_tellEnd 98 = .ok (.iastore, 1) := by decide +kernel
theorem dX12_tellEnd_99 : decode cX12_tellEnd 99 = .ok (.aload_n 0, 1) := by decide +kernel
theorem dX12_tellEnd_100 : decode cX12_tellEnd 100 = .ok (.getfield 7, 3) := by decide +kernel
theorem dX12_tellEnd_103 : decode cX12_tellEnd 103 = .ok (.bipush 12, 2) := by decide +kernel
theorem dX12_tellEnd_105 : decode cX12_tellEnd 105 = .ok (.iconst 4, 1) := by decide +kernel
theorem dX12_tellEnd_106 : decode cX12_tellEnd 106 = .ok (.iload 5, 2) := by decide +kernel
theorem dX12_tellEnd_108 : decode cX12_tellEnd 108 = .ok (.imul, 1) := by decide +kernel
theorem dX12_tellEnd_109 : decode cX12_tellEnd 109 = .ok (.iadd, 1) := by decide +kernel
theorem dX12_tellEnd_110 : decode cX12_tellEnd 110 = .ok (.iconst 2, 1) := by decide +kernel
theorem dX12_tellEnd_111 : decode cX12_tellEnd 111 = .ok (.iadd, 1) := by decide +kernel
theorem dX12_tellEnd_112 : decode cX12_tellEnd 112 = .ok (.iload_n 3, 1) := by decide +kernel
theorem dX12_tellEnd_113 : decode cX12_tellEnd 113 = .ok (.iastore, 1) := by decide +kernel
theorem dX12_tellEnd_114 : decode cX12_tellEnd 114 = .ok (.aload_n 0, 1) := by decide +kernel
theorem dX12_tellEnd_115 : decode cX12_tellEnd 115 = .ok (.getfield 7, 3) := by decide +kernel
theorem dX12_tellEnd_118 : decode cX12_tellEnd 118 = .ok (.bipush 12, 2) := by decide +kernel
theorem dX12_tellEnd_120 : decode cX12_tellEnd 120 = .ok (.iconst 4, 1) := by decide +kernel
theorem dX12_tellEnd_121 : decode cX12_tellEnd 121 = .ok (.iload 5, 2) := by decide +kernel
theorem dX12_tellEnd_123 : decode cX12_tellEnd 123 = .ok (.imul, 1) := by decide +kernel
theorem dX12_tellEnd_124 : decode cX12_tellEnd 124 = .ok (.iadd, 1) := by decide +kernel
theorem dX12_tellEnd_125 : decode cX12_tellEnd 125 = .ok (.iconst 3, 1) := by decide +kernel
theorem dX12_tellEnd_126 : decode cX12_tellEnd 126 = .ok (.iadd, 1) := by decide +kernel
theorem dX12_tellEnd_127 : decode cX12_tellEnd 127 = .ok (.iload 4, 2) := by decide +kernel
theorem dX12_tellEnd_129 : decode cX12_tellEnd 129 = .ok (.iastore, 1) := by decide +kernel
theorem dX12_tellEnd_130 : decode cX12_tellEnd 130 = .ok (.aload_n 0, 1) := by decide +kernel
theorem dX12_tellEnd_131 : decode cX12_tellEnd 131 = .ok (.getfield 7, 3) := by decide +kernel
theorem dX12_tellEnd_134 : decode cX12_tellEnd 134 = .ok (.iconst 0, 1) := by decide +kernel
theorem dX12_tellEnd_135 : decode cX12_tellEnd 135 = .ok (.dup2, 1) := by decide +kernel
theorem dX12_tellEnd_136 : decode cX12_tellEnd 136 = .ok (.iaload, 1) := by decide +kernel
theorem dX12_tellEnd_137 : decode cX12_tellEnd 137 = .ok (.iconst 1, 1) := by decide +kernel
theorem dX12_tellEnd_138 : decode cX12_tellEnd 138 = .ok (.iadd, 1) := by decide +kernel
theorem dX12_tellEnd_139 : decode cX12_tellEnd 139 = .ok (.iastore, 1) := by decide +kernel
theorem dX12_tellEnd_140 : decode cX12_tellEnd 140 = .ok (.iload 5, 2) := by decide +kernel
theorem dX12_tellEnd_142 : decode cX12_tellEnd 142 = .ok (.ireturn, 1) := by decide +kernel
theorem dX12_seed_0 : decode cX12_seed 0 = .ok (.iload_n 1, 1) := by decide +kernel
theorem dX12_seed_1 : decode cX12_seed 1 = .ok (.iconst 0, 1) := by decide +kernel
theorem dX12_seed_2 : decode cX12_seed 2 = .ok (.sipush 9999, 3) := by decide +kernel
theorem dX12_seed_5 : decode cX12_seed 5 = .ok (.invokestatic 173, 3) := by decide +kernel
theorem dX12_seed_8 : decode cX12_seed 8 = .ok (.ifCond .ne 9, 3) := by decide +kernel
theorem dX12_seed_11 : decode cX12_seed 11 = .ok (.aload_n 0, 1) := by decide +kernel
theorem dX12_seed_12 : decode cX12_seed 12 = .ok (.iconst 0, 1) := by decide +kernel
theorem dX12_seed_13 : decode cX12_seed 13 = .ok (.invokevirtual 181, 3) := by decide +kernel
theorem dX12_seed_16 : decode cX12_seed 16 = .ok (.ireturn, 1) := by decide +kernel
theorem dX12_seed_17 : decode cX12_seed 17 = .ok (.aload_n 0, 1) := by decide +kernel
theorem dX12_seed_18 : decode cX12_seed 18 = .ok (.getfield 7, 3) := by decide +kernel
theorem dX12_seed_21 : decode cX12_seed 21 = .ok (.bipush 92, 2) := by decide +kernel
theorem dX12_seed_23 : decode cX12_seed 23 = .ok (.iload_n 1, 1) := by decide +kernel
theorem dX12_seed_24 : decode cX12_seed 24 = .ok (.iconst 3, 1) := by decide +kernel
theorem dX12_seed_25 : decode cX12_seed 25 = .ok (.imul, 1) := by decide +kernel
theorem dX12_seed_26 : decode cX12_seed 26 = .ok (.bipush 13, 2) := by decide +kernel
theorem dX12_seed_28 : decode cX12_seed 28 = .ok (.iadd, 1) := by decide +kernel
theorem dX12_seed_29 : decode cX12_seed 29 = .ok (.iastore, 1) := by decide +kernel
theorem dX12_seed_30 : decode cX12_seed 30 = .ok (.iconst 1, 1) := by decide +kernel
theorem dX12_seed_31 : decode cX12_seed 31 = .ok (.ireturn, 1) := by decide +kernel
theorem dX12_keepsStep_0 : decode cX12_keepsStep 0 = .ok (.aload_n 0, 1) := by decide +kernel
theorem dX12_keepsStep_1 : decode cX12_keepsStep 1 = .ok (.getfield 7, 3) := by decide +kernel
theorem dX12_keepsStep_4 : decode cX12_keepsStep 4 = .ok (.iconst 3, 1) := by decide +kernel
theorem dX12_keepsStep_5 : decode cX12_keepsStep 5 = .ok (.iaload, 1) := by decide +kernel
theorem dX12_keepsStep_6 : decode cX12_keepsStep 6 = .ok (.bipush 30, 2) := by decide +kernel
theorem dX12_keepsStep_8 : decode cX12_keepsStep 8 = .ok (.if_icmp .ne 44, 3) := by decide +kernel
theorem dX12_keepsStep_11 : decode cX12_keepsStep 11 = .ok (.sipush 740, 3) := by decide +kernel
theorem dX12_keepsStep_14 : decode cX12_keepsStep 14 = .ok (.istore_n 1, 1) := by decide +kernel
theorem dX12_keepsStep_15 : decode cX12_keepsStep 15 = .ok (.iload_n 1, 1) := by decide +kernel
theorem dX12_keepsStep_16 : decode cX12_keepsStep 16 = .ok (.sipush 19503, 3) := by decide +kernel
theorem dX12_keepsStep_19 : decode cX12_keepsStep 19 = .ok (.if_icmp .ge 25, 3) := by decide +kernel
theorem dX12_keepsStep_22 : decode cX12_keepsStep 22 = .ok (.aload_n 0, 1) := by decide +kernel
theorem dX12_keepsStep_23 : decode cX12_keepsStep 23 = .ok (.getfield 7, 3) := by decide +kernel
theorem dX12_keepsStep_26 : decode cX12_keepsStep 26 = .ok (.iload_n 1, 1) := by decide +kernel
theorem dX12_keepsStep_27 : decode cX12_keepsStep 27 = .ok (.aload_n 0, 1) := by decide +kernel
theorem dX12_keepsStep_28 : decode cX12_keepsStep 28 = .ok (.getfield 7, 3) := by decide +kernel
theorem dX12_keepsStep_31 : decode cX12_keepsStep 31 = .ok (.iload_n 1, 1) := by decide +kernel
theorem dX12_keepsStep_32 : decode cX12_keepsStep 32 = .ok (.sipush 647, 3) := by decide +kernel
theorem dX12_keepsStep_35 : decode cX12_keepsStep 35 = .ok (.iadd, 1) := by decide +kernel
theorem dX12_keepsStep_36 : decode cX12_keepsStep 36 = .ok (.iaload, 1) := by decide +kernel
theorem dX12_keepsStep_37 : decode cX12_keepsStep 37 = .ok (.iastore, 1) := by decide +kernel
theorem dX12_keepsStep_38 : decode cX12_keepsStep 38 = .ok (.iinc 1 1, 3) := by decide +kernel
theorem dX12_keepsStep_41 : decode cX12_keepsStep 41 = .ok (.goto (-26), 3) := by decide +kernel
theorem dX12_keepsStep_44 : decode cX12_keepsStep 44 = .ok (.aload_n 0, 1) := by decide +kernel
theorem dX12_keepsStep_45 : decode cX12_keepsStep 45 = .ok (.getfield 7, 3) := by decide +kernel
theorem dX12_keepsStep_48 : decode cX12_keepsStep 48 = .ok (.iconst 3, 1) := by decide +kernel
theorem dX12_keepsStep_49 : decode cX12_keepsStep 49 = .ok (.bipush 29, 2) := by decide +kernel
theorem dX12_keepsStep_51 : decode cX12_keepsStep 51 = .ok (.iastore, 1) := by decide +kernel
theorem dX12_keepsStep_52 : decode cX12_keepsStep 52 = .ok (.iconst 0, 1) := by decide +kernel
theorem dX12_keepsStep_53 : decode cX12_keepsStep 53 = .ok (.istore_n 1, 1) := by decide +kernel
theorem dX12_keepsStep_54 : decode cX12_keepsStep 54 = .ok (.iload_n 1, 1) := by decide +kernel
theorem dX12_keepsStep_55 : decode cX12_keepsStep 55 = .ok (.sipush 647, 3) := by decide +kernel
theorem dX12_keepsStep_58 : decode cX12_keepsStep 58 = .ok (.if_icmp .ge 39, 3) := by decide +kernel
theorem dX12_keepsStep_61 : decode cX12_keepsStep 61 = .ok (.aload_n 0, 1) := by decide +kernel
theorem dX12_keepsStep_62 : decode cX12_keepsStep 62 = .ok (.getfield 7, 3) := by decide +kernel
theorem dX12_keepsStep_65 : decode cX12_keepsStep 65 = .ok (.sipush 740, 3) := by decide +kernel
theorem dX12_keepsStep_68 : decode cX12_keepsStep 68 = .ok (.sipush 647, 3) := by decide +kernel
theorem dX12_keepsStep_71 : decode cX12_keepsStep 71 = .ok (.aload_n 0, 1) := by decide +kernel
theorem dX12_keepsStep_72 : decode cX12_keepsStep 72 = .ok (.getfield 7, 3) := by decide +kernel
theorem dX12_keepsStep_75 : decode cX12_keepsStep 75 = .ok (.iconst 3, 1) := by decide +kernel
theorem dX12_keepsStep_76 : decode cX12_keepsStep 76 = .ok (.iaload, 1) := by decide +kernel
theorem dX12_keepsStep_77 : decode cX12_keepsStep 77 = .ok (.imul, 1) := by decide +kernel
theorem dX12_keepsStep_78 : decode cX12_keepsStep 78 = .ok (.iadd, 1) := by decide +kernel
theorem dX12_keepsStep_79 : decode cX12_keepsStep 79 = .ok (.iload_n 1, 1) := by decide +kernel
theorem dX12_keepsStep_80 : decode cX12_keepsStep 80 = .ok (.iadd, 1) := by decide +kernel
theorem dX12_keepsStep_81 : decode cX12_keepsStep 81 = .ok (.aload_n 0, 1) := by decide +kernel
theorem dX12_keepsStep_82 : decode cX12_keepsStep 82 = .ok (.getfield 7, 3) := by decide +kernel
theorem dX12_keepsStep_85 : decode cX12_keepsStep 85 = .ok (.bipush 90, 2) := by decide +kernel
theorem dX12_keepsStep_87 : decode cX12_keepsStep 87 = .ok (.iload_n 1, 1) := by decide +kernel
theorem dX12_keepsStep_88 : decode cX12_keepsStep 88 = .ok (.iadd, 1) := by decide +kernel
theorem dX12_keepsStep_89 : decode cX12_keepsStep 89 = .ok (.iaload, 1) := by decide +kernel
theorem dX12_keepsStep_90 : decode cX12_keepsStep 90 = .ok (.iastore, 1) := by decide +kernel
theorem dX12_keepsStep_91 : decode cX12_keepsStep 91 = .ok (.iinc 1 1, 3) := by decide +kernel
theorem dX12_keepsStep_94 : decode cX12_keepsStep 94 = .ok (.goto (-40), 3) := by decide +kernel
theorem dX12_keepsStep_97 : decode cX12_keepsStep 97 = .ok (.aload_n 0, 1) := by decide +kernel
theorem dX12_keepsStep_98 : decode cX12_keepsStep 98 = .ok (.getfield 7, 3) := by decide +kernel
theorem dX12_keepsStep_101 : decode cX12_keepsStep 101 = .ok (.iconst 3, 1) := by decide +kernel
theorem dX12_keepsStep_102 : decode cX12_keepsStep 102 = .ok (.dup2, 1) := by decide +kernel
theorem dX12_keepsStep_103 : decode cX12_keepsStep 103 = .ok (.iaload, 1) := by decide +kernel
theorem dX12_keepsStep_104 : decode cX12_keepsStep 104 = .ok (.iconst 1, 1) := by decide +kernel
theorem dX12_keepsStep_105 : decode cX12_keepsStep 105 = .ok (.iadd, 1) := by decide +kernel
theorem dX12_keepsStep_106 : decode cX12_keepsStep 106 = .ok (.iastore, 1) := by decide +kernel
theorem dX12_keepsStep_107 : decode cX12_keepsStep 107 = .ok (.return_, 1) := by decide +kernel
theorem dX12_undo_0 : decode cX12_undo 0 = .ok (.aload_n 0, 1) := by decide +kernel
theorem dX12_undo_1 : decode cX12_undo 1 = .ok (.getfield 7, 3) := by decide +kernel
theorem dX12_undo_4 : decode cX12_undo 4 = .ok (.iconst 3, 1) := by decide +kernel
theorem dX12_undo_5 : decode cX12_undo 5 = .ok (.iaload, 1) := by decide +kernel
theorem dX12_undo_6 : decode cX12_undo 6 = .ok (.ifCond .ne 10, 3) := by decide +kernel
theorem dX12_undo_9 : decode cX12_undo 9 = .ok (.aload_n 0, 1) := by decide +kernel
theorem dX12_undo_10 : decode cX12_undo 10 = .ok (.iconst 2, 1) := by decide +kernel
theorem dX12_undo_11 : decode cX12_undo 11 = .ok (.iconst (-1), 1) := by decide +kernel
theorem dX12_undo_12 : decode cX12_undo 12 = .ok (.invokevirtual 177, 3) := by decide +kernel
theorem dX12_undo_15 : decode cX12_undo 15 = .ok (.ireturn, 1) := by decide +kernel
theorem dX12_undo_16 : decode cX12_undo 16 = .ok (.aload_n 0, 1) := by decide +kernel
theorem dX12_undo_17 : decode cX12_undo 17 = .ok (.getfield 7, 3) := by decide +kernel
theorem dX12_undo_20 : decode cX12_undo 20 = .ok (.iconst 3, 1) := by decide +kernel
theorem dX12_undo_21 : decode cX12_undo 21 = .ok (.dup2, 1) := by decide +kernel
theorem dX12_undo_22 : decode cX12_undo 22 = .ok (.iaload, 1) := by decide +kernel
theorem dX12_undo_23 : decode cX12_undo 23 = .ok (.iconst 1, 1) := by decide +kernel
theorem dX12_undo_24 : decode cX12_undo 24 = .ok (.isub, 1) := by decide +kernel
theorem dX12_undo_25 : decode cX12_undo 25 = .ok (.iastore, 1) := by decide +kernel
theorem dX12_undo_26 : decode cX12_undo 26 = .ok (.iconst 0, 1) := by decide +kernel
theorem dX12_undo_27 : decode cX12_undo 27 = .ok (.istore_n 1, 1) := by decide +kernel
theorem dX12_undo_28 : decode cX12_undo 28 = .ok (.iload_n 1, 1) := by decide +kernel
theorem dX12_undo_29 : decode cX12_undo 29 = .ok (.sipush 647, 3) := by decide +kernel
theorem dX12_undo_32 : decode cX12_undo 32 = .ok (.if_icmp .ge 39, 3) := by decide +kernel
theorem dX12_undo_35 : decode cX12_undo 35 = .ok (.aload_n 0, 1) := by decide +kernel
theorem dX12_undo_36 : decode cX12_undo 36 = .ok (.getfield 7, 3) := by decide +kernel
theorem dX12_undo_39 : decode cX12_undo 39 = .ok (.bipush 90, 2) := by decide +kernel
theorem dX12_undo_41 : decode cX12_undo 41 = .ok (.iload_n 1, 1) := by decide +kernel
theorem dX12_undo_42 : decode cX12_undo 42 = .ok (.iadd, 1) := by decide +kernel
theorem dX12_undo_43 : decode cX12_undo 43 = .ok (.aload_n 0, 1) := by decide +kernel
theorem dX12_undo_44 : decode cX12_undo 44 = .ok (.getfield 7, 3) := by decide +kernel
theorem dX12_undo_47 : decode cX12_undo 47 = .ok (.sipush 740, 3) := by decide +kernel
theorem dX12_undo_50 : decode cX12_undo 50 = .ok (.sipush 647, 3) := by decide +kernel
theorem dX12_undo_53 : decode cX12_undo 53 = .ok (.aload_n 0, 1) := by decide +kernel
theorem dX12_undo_54 : decode cX12_undo 54 = .ok (.getfield 7, 3) := by decide +kernel
theorem dX12_undo_57 : decode cX12_undo 57 = .ok (.iconst 3, 1) := by decide +kernel
theorem dX12_undo_58 : decode cX12_undo 58 = .ok (.iaload, 1) := by decide +kernel
theorem dX12_undo_59 : decode cX12_undo 59 = .ok (.imul, 1) := by decide +kernel
theorem dX12_undo_60 : decode cX12_undo 60 = .ok (.iadd, 1) := by decide +kernel
theorem dX12_undo_61 : decode cX12_undo 61 = .ok (.iload_n 1, 1) := by decide +kernel
theorem dX12_undo_62 : decode cX12_undo 62 = .ok (.iadd, 1) := by decide +kernel
theorem dX12_undo_63 : decode cX12_undo 63 = .ok (.iaload, 1) := by decide +kernel
theorem dX12_undo_64 : decode cX12_undo 64 = .ok (.iastore, 1) := by decide +kernel
theorem dX12_undo_65 : decode cX12_undo 65 = .ok (.iinc 1 1, 3) := by decide +kernel
theorem dX12_undo_68 : decode cX12_undo 68 = .ok (.goto (-40), 3) := by decide +kernel
theorem dX12_undo_71 : decode cX12_undo 71 = .ok (.aload_n 0, 1) := by decide +kernel
theorem dX12_undo_72 : decode cX12_undo 72 = .ok (.getfield 7, 3) := by decide +kernel
theorem dX12_undo_75 : decode cX12_undo 75 = .ok (.iconst 3, 1) := by decide +kernel
theorem dX12_undo_76 : decode cX12_undo 76 = .ok (.iaload, 1) := by decide +kernel
theorem dX12_undo_77 : decode cX12_undo 77 = .ok (.ireturn, 1) := by decide +kernel
theorem dX12_delay_0 : decode cX12_delay 0 = .ok (.aload_n 0, 1) := by decide +kernel
theorem dX12_delay_1 : decode cX12_delay 1 = .ok (.iload_n 1, 1) := by decide +kernel
theorem dX12_delay_2 : decode cX12_delay 2 = .ok (.invokevirtual 185, 3) := by decide +kernel
theorem dX12_delay_5 : decode cX12_delay 5 = .ok (.ifCond .eq 26, 3) := by decide +kernel
theorem dX12_delay_8 : decode cX12_delay 8 = .ok (.aload_n 0, 1) := by decide +kernel
theorem dX12_delay_9 : decode cX12_delay 9 = .ok (.iload_n 2, 1) := by decide +kernel
theorem dX12_delay_10 : decode cX12_delay 10 = .ok (.invokevirtual 185, 3) := by decide +kernel
theorem dX12_delay_13 : decode cX12_delay 13 = .ok (.ifCond .eq 18, 3) := by decide +kernel
theorem dX12_delay_16 : decode cX12_delay 16 = .ok (.iload_n 1, 1) := by decide +kernel
theorem dX12_delay_17 : decode cX12_delay 17 = .ok (.iload_n 2, 1) := by decide +kernel
theorem dX12_delay_18 : decode cX12_delay 18 = .ok (.if_icmp .eq 13, 3) := by decide +kernel
theorem dX12_delay_21 : decode cX12_delay 21 = .ok (.iload_n 3, 1) := by decide +kernel
theorem dX12_delay_22 : decode cX12_delay 22 = .ok (.iconst 0, 1) := by decide +kernel
theorem dX12_delay_23 : decode cX12_delay 23 = .ok (.bipush 60, 2) := by decide +kernel
theorem dX12_delay_25 : decode cX12_delay 25 = .ok (.invokestatic 173, 3) := by decide +kernel
theorem dX12_delay_28 : decode cX12_delay 28 = .ok (.ifCond .ne 9, 3) := by decide +kernel
theorem dX12_delay_31 : decode cX12_delay 31 = .ok (.aload_n 0, 1) := by decide +kernel
theorem dX12_delay_32 : decode cX12_delay 32 = .ok (.iconst 0, 1) := by decide +kernel
theorem dX12_delay_33 : decode cX12_delay 33 = .ok (.invokevirtual 181, 3) := by decide +kernel
theorem dX12_delay_36 : decode cX12_delay 36 = .ok (.ireturn, 1) := by decide +kernel
theorem dX12_delay_37 : decode cX12_delay 37 = .ok (.aload_n 0, 1) := by decide +kernel
theorem dX12_delay_38 : decode cX12_delay 38 = .ok (.iload_n 1, 1) := by decide +kernel
theorem dX12_delay_39 : decode cX12_delay 39 = .ok (.iload_n 2, 1) := by decide +kernel
theorem dX12_delay_40 : decode cX12_delay 40 = .ok (.invokevirtual 188, 3) := by decide +kernel
theorem dX12_delay_43 : decode cX12_delay 43 = .ok (.iload_n 3, 1) := by decide +kernel
theorem dX12_delay_44 : decode cX12_delay 44 = .ok (.if_icmp .ne 9, 3) := by decide +kernel
theorem dX12_delay_47 : decode cX12_delay 47 = .ok (.aload_n 0, 1) := by decide +kernel
theorem dX12_delay_48 : decode cX12_delay 48 = .ok (.iconst 2, 1) := by decide +kernel
theorem dX12_delay_49 : decode cX12_delay 49 = .ok (.invokevirtual 181, 3) := by decide +kernel
theorem dX12_delay_52 : decode cX12_delay 52 = .ok (.ireturn, 1) := by decide +kernel
theorem dX12_delay_53 : decode cX12_delay 53 = .ok (.aload_n 0, 1) := by decide +kernel
theorem dX12_delay_54 : decode cX12_delay 54 = .ok (.invokevirtual 191, 3) := by decide +kernel
theorem dX12_delay_57 : decode cX12_delay 57 = .ok (.aload_n 0, 1) := by decide +kernel
theorem dX12_delay_58 : decode cX12_delay 58 = .ok (.getfield 7, 3) := by decide +kernel
theorem dX12_delay_61 : decode cX12_delay 61 = .ok (.bipush 117, 2) := by decide +kernel
theorem dX12_delay_63 : decode cX12_delay 63 = .ok (.iconst 4, 1) := by decide +kernel
theorem dX12_delay_64 : decode cX12_delay 64 = .ok (.iload_n 1, 1) := by decide +kernel
theorem dX12_delay_65 : decode cX12_delay 65 = .ok (.imul, 1) := by decide +kernel
theorem dX12_delay_66 : decode cX12_delay 66 = .ok (.iadd, 1) := by decide +kernel
theorem dX12_delay_67 : decode cX12_delay 67 = .ok (.iload_n 2, 1) := by decide +kernel
theorem dX12_delay_68 : decode cX12_delay 68 = .ok (.iadd, 1) := by decide +kernel
theorem dX12_delay_69 : decode cX12_delay 69 = .ok (.iload_n 3, 1) := by decide +kernel
theorem dX12_delay_70 : decode cX12_delay 70 = .ok (.iastore, 1) := by decide +kernel
theorem dX12_delay_71 : decode cX12_delay 71 = .ok (.iconst 1, 1) := by decide +kernel
theorem dX12_delay_72 : decode cX12_delay 72 = .ok (.ireturn, 1) := by decide +kernel
theorem dX12_rule_0 : decode cX12_rule 0 = .ok (.iload_n 1, 1) := by decide +kernel
theorem dX12_rule_1 : decode cX12_rule 1 = .ok (.iconst 0, 1) := by decide +kernel
theorem dX12_rule_2 : decode cX12_rule 2 = .ok (.iconst 3, 1) := by decide +kernel
theorem dX12_rule_3 : decode cX12_rule 3 = .ok (.invokestatic 173, 3) := by decide +kernel
theorem dX12_rule_6 : decode cX12_rule 6 = .ok (.ifCond .ne 9, 3) := by decide +kernel
theorem dX12_rule_9 : decode cX12_rule 9 = .ok (.aload_n 0, 1) := by decide +kernel
theorem dX12_rule_10 : decode cX12_rule 10 = .ok (.iconst 0, 1) := by decide +kernel
theorem dX12_rule_11 : decode cX12_rule 11 = .ok (.invokevirtual 181, 3) := by decide +kernel
theorem dX12_rule_14 : decode cX12_rule 14 = .ok (.ireturn, 1) := by decide +kernel
theorem dX12_rule_15 : decode cX12_rule 15 = .ok (.aload_n 0, 1) := by decide +kernel
theorem dX12_rule_16 : decode cX12_rule 16 = .ok (.getfield 7, 3) := by decide +kernel
theorem dX12_rule_19 : decode cX12_rule 19 = .ok (.bipush 90, 2) := by decide +kernel
theorem dX12_rule_21 : decode cX12_rule 21 = .ok (.iaload, 1) := by decide +kernel
theorem dX12_rule_22 : decode cX12_rule 22 = .ok (.iload_n 1, 1) := by decide +kernel
theorem dX12_rule_23 : decode cX12_rule 23 = .ok (.if_icmp .ne 9, 3) := by decide +kernel
theorem dX12_rule_26 : decode cX12_rule 26 = .ok (.aload_n 0, 1) := by decide +kernel
theorem dX12_rule_27 : decode cX12_rule 27 = .ok (.iconst 2, 1) := by decide +kernel
theorem dX12_rule_28 : decode cX12_rule 28 = .ok (.invokevirtual 181, 3) := by decide +kernel
theorem dX12_rule_31 : decode cX12_rule 31 = .ok (.ireturn, 1) := by decide +kernel
theorem dX12_rule_32 : decode cX12_rule 32 = .ok (.aload_n 0, 1) := by decide +kernel
theorem dX12_rule_33 : decode cX12_rule 33 = .ok (.invokevirtual 191, 3) := by decide +kernel
theorem dX12_rule_36 : decode cX12_rule 36 = .ok (.aload_n 0, 1) := by decide +kernel
theorem dX12_rule_37 : decode cX12_rule 37 = .ok (.getfield 7, 3) := by decide +kernel
theorem dX12_rule_40 : decode cX12_rule 40 = .ok (.bipush 90, 2) := by decide +kernel
theorem dX12_rule_42 : decode cX12_rule 42 = .ok (.iload_n 1, 1) := by decide +kernel
theorem dX12_rule_43 : decode cX12_rule 43 = .ok (.iastore, 1) := by decide +kernel
theorem dX12_rule_44 : decode cX12_rule 44 = .ok (.iconst 1, 1) := by decide +kernel
theorem dX12_rule_45 : decode cX12_rule 45 = .ok (.ireturn, 1) := by decide +kernel
theorem dX12_put_0 : decode cX12_put 0 = .ok (.bipush 24, 2) := by decide +kernel
theorem dX12_put_2 : decode cX12_put 2 = .ok (.istore_n 2, 1) := by decide +kernel
theorem dX12_put_3 : decode cX12_put 3 = .ok (.iload_n 2, 1) := by decide +kernel
theorem dX12_put_4 : decode cX12_put 4 = .ok (.ifCond .lt 34, 3) := by decide +kernel
theorem dX12_put_7 : decode cX12_put 7 = .ok (.aload_n 0, 1) := by decide +kernel
theorem dX12_put_8 : decode cX12_put 8 = .ok (.getfield 16, 3) := by decide +kernel
theorem dX12_put_11 : decode cX12_put 11 = .ok (.aload_n 0, 1) := by decide +kernel
theorem dX12_put_12 : decode cX12_put 12 = .ok (.getfield 194, 3) := by decide +kernel
theorem dX12_put_15 : decode cX12_put 15 = .ok (.iload_n 1, 1) := by decide +kernel
theorem dX12_put_16 : decode cX12_put 16 = .ok (.iload_n 2, 1) := by decide +kernel
theorem dX12_put_17 : decode cX12_put 17 = .ok (.ishr, 1) := by decide +kernel
theorem dX12_put_18 : decode cX12_put 18 = .ok (.i2b, 1) := by decide +kernel
theorem dX12_put_19 : decode cX12_put 19 = .ok (.bastore, 1) := by decide +kernel
theorem dX12_put_20 : decode cX12_put 20 = .ok (.aload_n 0, 1) := by decide +kernel
theorem dX12_put_21 : decode cX12_put 21 = .ok (.dup, 1) := by decide +kernel
theorem dX12_put_22 : decode cX12_put 22 = .ok (.getfield 194, 3) := by decide +kernel
theorem dX12_put_25 : decode cX12_put 25 = .ok (.iconst 1, 1) := by decide +kernel
theorem dX12_put_26 : decode cX12_put 26 = .ok (.iadd, 1) := by decide +kernel
theorem dX12_put_27 : decode cX12_put 27 = .ok (.putfield 194, 3) := by decide +kernel
theorem dX12_put_30 : decode cX12_put 30 = .ok (.iload_n 2, 1) := by decide +kernel
theorem dX12_put_31 : decode cX12_put 31 = .ok (.bipush 8, 2) := by decide +kernel
theorem dX12_put_33 : decode cX12_put 33 = .ok (.isub, 1) := by decide +kernel
theorem dX12_put_34 : decode cX12_put 34 = .ok (.istore_n 2, 1) := by decide +kernel
theorem dX12_put_35 : decode cX12_put 35 = .ok (.goto (-32), 3) := by decide +kernel
theorem dX12_put_38 : decode cX12_put 38 = .ok (.return_, 1) := by decide +kernel
theorem dX12_feed_0 : decode cX12_feed 0 = .ok (.aload_n 0, 1) := by decide +kernel
theorem dX12_feed_1 : decode cX12_feed 1 = .ok (.getfield 194, 3) := by decide +kernel
theorem dX12_feed_4 : decode cX12_feed 4 = .ok (.bipush 20, 2) := by decide +kernel
theorem dX12_feed_6 : decode cX12_feed 6 = .ok (.iadd, 1) := by decide +kernel
theorem dX12_feed_7 : decode cX12_feed 7 = .ok (.sipush 300, 3) := by decide +kernel
theorem dX12_feed_10 : decode cX12_feed 10 = .ok (.if_icmp .le 10, 3) := by decide +kernel
theorem dX12_feed_13 : decode cX12_feed 13 = .ok (.aload_n 0, 1) := by decide +kernel
theorem dX12_feed_14 : decode cX12_feed 14 = .ok (.iconst 1, 1) := by decide +kernel
theorem dX12_feed_15 : decode cX12_feed 15 = .ok (.iconst (-1), 1) := by decide +kernel
theorem dX12_feed_16 : decode cX12_feed 16 = .ok (.invokevirtual 177, 3) := by decide +kernel
theorem dX12_feed_19 : decode cX12_feed 19 = .ok (.ireturn, 1) := by decide +kernel
theorem dX12_feed_20 : decode cX12_feed 20 = .ok (.aload_n 0, 1) := by decide +kernel
theorem dX12_feed_21 : decode cX12_feed 21 = .ok (.iload_n 1, 1) := by decide +kernel
theorem dX12_feed_22 : decode cX12_feed 22 = .ok (.invokevirtual 197, 3) := by decide +kernel
theorem dX12_feed_25 : decode cX12_feed 25 = .ok (.aload_n 0, 1) := by decide +kernel
theorem dX12_feed_26 : decode cX12_feed 26 = .ok (.iload_n 2, 1) := by decide +kernel
theorem dX12_feed_27 : decode cX12_feed 27 = .ok (.invokevirtual 197, 3) := by decide +kernel
theorem dX12_feed_30 : decode cX12_feed 30 = .ok (.aload_n 0, 1) := by decide +kernel
theorem dX12_feed_31 : decode cX12_feed 31 = .ok (.iload_n 3, 1) := by decide +kernel
theorem dX12_feed_32 : decode cX12_feed 32 = .ok (.invokevirtual 197, 3) := by decide +kernel
theorem dX12_feed_35 : decode cX12_feed 35 = .ok (.aload_n 0, 1) := by decide +kernel
theorem dX12_feed_36 : decode cX12_feed 36 = .ok (.iload 4, 2) := by decide +kernel
theorem dX12_feed_38 : decode cX12_feed 38 = .ok (.invokevirtual 197, 3) := by decide +kernel
theorem dX12_feed_41 : decode cX12_feed 41 = .ok (.aload_n 0, 1) := by decide +kernel
theorem dX12_feed_42 : decode cX12_feed 42 = .ok (.iload 5, 2) := by decide +kernel
theorem dX12_feed_44 : decode cX12_feed 44 = .ok (.invokevirtual 197, 3) := by decide +kernel
theorem dX12_feed_47 : decode cX12_feed 47 = .ok (.aload_n 0, 1) := by decide +kernel
theorem dX12_feed_48 : decode cX12_feed 48 = .ok (.getfield 194, 3) := by decide +kernel
theorem dX12_feed_51 : decode cX12_feed 51 = .ok (.ireturn, 1) := by decide +kernel
theorem dX12_end_0 : decode cX12_end 0 = .ok (.iload_n 1, 1) := by decide +kernel
theorem dX12_end_1 : decode cX12_end 1 = .ok (.iconst 0, 1) := by decide +kernel
theorem dX12_end_2 : decode cX12_end 2 = .ok (.aload_n 0, 1) := by decide +kernel
theorem dX12_end_3 : decode cX12_end 3 = .ok (.getfield 194, 3) := by decide +kernel
theorem dX12_end_6 : decode cX12_end 6 = .ok (.invokestatic 173, 3) := by decide +kernel
theorem dX12_end_9 : decode cX12_end 9 = .ok (.ifCond .ne 10, 3) := by decide +kernel
theorem dX12_end_12 : decode cX12_end 12 = .ok (.aload_n 0, 1) := by decide +kernel
theorem dX12_end_13 : decode cX12_end 13 = .ok (.iconst 0, 1) := by decide +kernel
theorem dX12_end_14 : decode cX12_end 14 = .ok (.iconst (-1), 1) := by decide +kernel
theorem dX12_end_15 : decode cX12_end 15 = .ok (.invokevirtual 177, 3) := by decide +kernel
theorem dX12_end_18 : decode cX12_end 18 = .ok (.ireturn, 1) := by decide +kernel
theorem dX12_end_19 : decode cX12_end 19 = .ok (.aload_n 0, 1) := by decide +kernel
theorem dX12_end_20 : decode cX12_end 20 = .ok (.iload_n 1, 1) := by decide +kernel
theorem dX12_end_21 : decode cX12_end 21 = .ok (.putfield 194, 3) := by decide +kernel
theorem dX12_end_24 : decode cX12_end 24 = .ok (.iload_n 1, 1) := by decide +kernel
theorem dX12_end_25 : decode cX12_end 25 = .ok (.ireturn, 1) := by decide +kernel
theorem dX12_isLetter_0 : decode cX12_isLetter 0 = .ok (.iload_n 0, 1) := by decide +kernel
theorem dX12_isLetter_1 : decode cX12_isLetter 1 = .ok (.bipush 97, 2) := by decide +kernel
theorem dX12_isLetter_3 : decode cX12_isLetter 3 = .ok (.bipush 122, 2) := by decide +kernel
theorem dX12_isLetter_5 : decode cX12_isLetter 5 = .ok (.invokestatic 173, 3) := by decide +kernel
theorem dX12_isLetter_8 : decode cX12_isLetter 8 = .ok (.ifCond .ne 14, 3) := by decide +kernel
theorem dX12_isLetter_11 : decode cX12_isLetter 11 = .ok (.iload_n 0, 1) := by decide +kernel
theorem dX12_isLetter_12 : decode cX12_isLetter 12 = .ok (.bipush 65, 2) := by decide +kernel
theorem dX12_isLetter_14 : decode cX12_isLetter 14 = .ok (.bipush 90, 2) := by decide +kernel
theorem dX12_isLetter_16 : decode cX12_isLetter 16 = .ok (.invokestatic 173, 3) := by decide +kernel
theorem dX12_isLetter_19 : decode cX12_isLetter 19 = .ok (.ifCond .eq 7, 3) := by decide +kernel
theorem dX12_isLetter_22 : decode cX12_isLetter 22 = .ok (.iconst 1, 1) := by decide +kernel
theorem dX12_isLetter_23 : decode cX12_isLetter 23 = .ok (.goto 4, 3) := by decide +kernel
theorem dX12_isLetter_26 : decode cX12_isLetter 26 = .ok (.iconst 0, 1) := by decide +kernel
theorem dX12_isLetter_27 : decode cX12_isLetter 27 = .ok (.ireturn, 1) := by decide +kernel
theorem dX12_wordOf_0 : decode cX12_wordOf 0 = .ok (.lload_n 0, 1) := by decide +kernel
theorem dX12_wordOf_1 : decode cX12_wordOf 1 = .ok (.ldc2_w 201, 3) := by decide +kernel
theorem dX12_wordOf_4 : decode cX12_wordOf 4 = .ok (.lcmp, 1) := by decide +kernel
theorem dX12_wordOf_5 : decode cX12_wordOf 5 = .ok (.ifCond .ne 7, 3) := by decide +kernel
theorem dX12_wordOf_8 : decode cX12_wordOf 8 = .ok (.iconst 0, 1) := by decide +kernel
theorem dX12_wordOf_9 : decode cX12_wordOf 9 = .ok (.goto 402, 3) := by decide +kernel
theorem dX12_wordOf_12 : decode cX12_wordOf 12 = .ok (.lload_n 0, 1) := by decide +kernel
theorem dX12_wordOf_13 : decode cX12_wordOf 13 = .ok (.ldc2_w 203, 3) := by decide +kernel
theorem dX12_wordOf_16 : decode cX12_wordOf 16 = .ok (.lcmp, 1) := by decide +kernel
theorem dX12_wordOf_17 : decode cX12_wordOf 17 = .ok (.ifCond .ne 7, 3) := by decide +kernel
theorem dX12_wordOf_20 : decode cX12_wordOf 20 = .ok (.iconst 1, 1) := by decide +kernel
theorem dX12_wordOf_21 : decode cX12_wordOf 21 = .ok (.goto 390, 3) := by decide +kernel
theorem dX12_wordOf_24 : decode cX12_wordOf 24 = .ok (.lload_n 0, 1) := by decide +kernel
theorem dX12_wordOf_25 : decode cX12_wordOf 25 = .ok (.ldc2_w 205, 3) := by decide +kernel
theorem dX12_wordOf_28 : decode cX12_wordOf 28 = .ok (.lcmp, 1) := by decide +kernel
theorem dX12_wordOf_29 : decode cX12_wordOf 29 = .ok (.ifCond .ne 7, 3) := by decide +kernel
theorem dX12_wordOf_32 : decode cX12_wordOf 32 = .ok (.iconst 2, 1) := by decide +kernel
theorem dX12_wordOf_33 : decode cX12_wordOf 33 = .ok (.goto 378, 3) := by decide +kernel
theorem dX12_wordOf_36 : decode cX12_wordOf 36 = .ok (.lload_n 0, 1) := by decide +kernel
theorem dX12_wordOf_37 : decode cX12_wordOf 37 = .ok (.ldc2_w 207, 3) := by decide +kernel
theorem dX12_wordOf_40 : decode cX12_wordOf 40 = .ok (.lcmp, 1) := by decide +kernel
theorem dX12_wordOf_41 : decode cX12_wordOf 41 = .ok (.ifCond .ne 7, 3) := by decide +kernel
theorem dX12_wordOf_44 : decode cX12_wordOf 44 = .ok (.iconst 3, 1) := by decide +kernel
theorem dX12_wordOf_45 : decode cX12_wordOf 45 = .ok (.goto 366, 3) := by decide +kernel
theorem dX12_wordOf_48 : decode cX12_wordOf 48 = .ok (.lload_n 0, 1) := by decide +kernel
theorem dX12_wordOf_49 : decode cX12_wordOf 49 = .ok (.ldc2_w 209, 3) := by decide +kernel
theorem dX12_wordOf_52 : decode cX12_wordOf 52 = .ok (.lcmp, 1) := by decide +kernel
theorem dX12_wordOf_53 : decode cX12_wordOf 53 = .ok (.ifCond .ne 7, 3) := by decide +kernel
theorem dX12_wordOf_56 : decode cX12_wordOf 56 = .ok (.iconst 4, 1) := by decide +kernel
theorem dX12_wordOf_57 : decode cX12_wordOf 57 = .ok (.goto 354, 3) := by decide +kernel
theorem dX12_wordOf_60 : decode cX12_wordOf 60 = .ok (.lload_n 0, 1) := by decide +kernel
theorem dX12_wordOf_61 : decode cX12_wordOf 61 = .ok (.ldc2_w 211, 3) := by decide +kernel
theorem dX12_wordOf_64 : decode cX12_wordOf 64 = .ok (.lcmp, 1) := by decide +kernel
theorem dX12_wordOf_65 : decode cX12_wordOf 65 = .ok (.ifCond .ne 7, 3) := by decide +kernel
theorem dX12_wordOf_68 : decode cX12_wordOf 68 = .ok (.iconst 5, 1) := by decide +kernel
theorem dX12_wordOf_69 : decode cX12_wordOf 69 = .ok (.goto 342, 3) := by decide +kernel
theorem dX12_wordOf_72 : decode cX12_wordOf 72 = .ok (.lload_n 0, 1) := by decide +kernel
theorem dX12_wordOf_73 : decode cX12_wordOf 73 = .ok (.ldc2_w 213, 3) := by decide +kernel
theorem dX12_wordOf_76 : decode cX12_wordOf 76 = .ok (.lcmp, 1) := by decide +kernel
theorem dX12_wordOf_77 : decode cX12_wordOf 77 = .ok (.ifCond .ne 8, 3) := by decide +kernel
theorem dX12_wordOf_80 : decode cX12_wordOf 80 = .ok (.bipush 6, 2) := by decide +kernel
theorem dX12_wordOf_82 : decode cX12_wordOf 82 = .ok (.goto 329, 3) := by decide +kernel
theorem dX12_wordOf_85 : decode cX12_wordOf 85 = .ok (.lload_n 0, 1) := by decide +kernel
theorem dX12_wordOf_86 : decode cX12_wordOf 86 = .ok (.ldc2_w 215, 3) := by decide +kernel
theorem dX12_wordOf_89 : decode cX12_wordOf 89 = .ok (.lcmp, 1) := by decide +kernel
theorem dX12_wordOf_90 : decode cX12_wordOf 90 = .ok (.ifCond .ne 8, 3) := by decide +kernel
theorem dX12_wordOf_93 : decode cX12_wordOf 93 = .ok (.bipush 7, 2) := by decide +kernel
theorem dX12_wordOf_95 : decode cX12_wordOf 95 = .ok (.goto 316, 3) := by decide +kernel
theorem dX12_wordOf_98 : decode cX12_wordOf 98 = .ok (.lload_n 0, 1) := by decide +kernel
theorem dX12_wordOf_99 : decode cX12_wordOf 99 = .ok (.ldc2_w 217, 3) := by decide +kernel
theorem dX12_wordOf_102 : decode cX12_wordOf 102 = .ok (.lcmp, 1) := by decide +kernel
theorem dX12_wordOf_103 : decode cX12_wordOf 103 = .ok (.ifCond .ne 8, 3) := by decide +kernel
theorem dX12_wordOf_106 : decode cX12_wordOf 106 = .ok (.bipush 8, 2) := by decide +kernel
theorem dX12_wordOf_108 : decode cX12_wordOf 108 = .ok (.goto 303, 3) := by decide +kernel
theorem dX12_wordOf_111 : decode cX12_wordOf 111 = .ok (.lload_n 0, 1) := by decide +kernel
theorem dX12_wordOf_112 : decode cX12_wordOf 112 = .ok (.ldc2_w 219, 3) := by decide +kernel
theorem dX12_wordOf_115 : decode cX12_wordOf 115 = .ok (.lcmp, 1) := by decide +kernel
theorem dX12_wordOf_116 : decode cX12_wordOf 116 = .ok (.ifCond .ne 8, 3) := by decide +kernel
theorem dX12_wordOf_119 : decode cX12_wordOf 119 = .ok (.bipush 9, 2) := by decide +kernel
theorem dX12_wordOf_121 : decode cX12_wordOf 121 = .ok (.goto 290, 3) := by decide +kernel
theorem dX12_wordOf_124 : decode cX12_wordOf 124 = .ok (.lload_n 0, 1) := by decide +kernel
theorem dX12_wordOf_125 : decode cX12_wordOf 125 = .ok (.ldc2_w 221, 3) := by decide +kernel
theorem dX12_wordOf_128 : decode cX12_wordOf 128 = .ok (.lcmp, 1) := by decide +kernel
theorem dX12_wordOf_129 : decode cX12_wordOf 129 = .ok (.ifCond .ne 8, 3) := by decide +kernel
theorem dX12_wordOf_132 : decode cX12_wordOf 132 = .ok (.bipush 10, 2) := by decide +kernel
theorem dX12_wordOf_134 : decode cX12_wordOf 134 = .ok (.goto 277, 3) := by decide +kernel
theorem dX12_wordOf_137 : decode cX12_wordOf 137 = .ok (.lload_n 0, 1) := by decide +kernel
theorem dX12_wordOf_138 : decode cX12_wordOf 138 = .ok (.ldc2_w 223, 3) := by decide +kernel
theorem dX12_wordOf_141 : decode cX12_wordOf 141 = .ok (.lcmp, 1) := by decide +kernel
theorem dX12_wordOf_142 : decode cX12_wordOf 142 = .ok (.ifCond .ne 8, 3) := by decide +kernel
theorem dX12_wordOf_145 : decode cX12_wordOf 145 = .ok (.bipush 11, 2) := by decide +kernel
theorem dX12_wordOf_147 : decode cX12_wordOf 147 = .ok (.goto 264, 3) := by decide +kernel
theorem dX12_wordOf_150 : decode cX12_wordOf 150 = .ok (.lload_n 0, 1) := by decide +kernel
theorem dX12_wordOf_151 : decode cX12_wordOf 151 = .ok (.ldc2_w 225, 3) := by decide +kernel
theorem dX12_wordOf_154 : decode cX12_wordOf 154 = .ok (.lcmp, 1) := by decide +kernel
theorem dX12_wordOf_155 : decode cX12_wordOf 155 = .ok (.ifCond .ne 8, 3) := by decide +kernel
theorem dX12_wordOf_158 : decode cX12_wordOf 158 = .ok (.bipush 12, 2) := by decide +kernel
theorem dX12_wordOf_160 : decode cX12_wordOf 160 = .ok (.goto 251, 3) := by decide +kernel
theorem dX12_wordOf_163 : decode cX12_wordOf 163 = .ok (.lload_n 0, 1) := by decide +kernel
theorem dX12_wordOf_164 : decode cX12_wordOf 164 = .ok (.ldc2_w 227, 3) := by decide +kernel
theorem dX12_wordOf_167 : decode cX12_wordOf 167 = .ok (.lcmp, 1) := by decide +kernel
theorem dX12_wordOf_168 : decode cX12_wordOf 168 = .ok (.ifCond .ne 8, 3) := by decide +kernel
theorem dX12_wordOf_171 : decode cX12_wordOf 171 = .ok (.bipush 13, 2) := by decide +kernel
theorem dX12_wordOf_173 : decode cX12_wordOf 173 = .ok (.goto 238, 3) := by decide +kernel
theorem dX12_wordOf_176 : decode cX12_wordOf 176 = .ok (.lload_n 0, 1) := by decide +kernel
theorem dX12_wordOf_177 : decode cX12_wordOf 177 = .ok (.ldc2_w 229, 3) := by decide +kernel
theorem dX12_wordOf_180 : decode cX12_wordOf 180 = .ok (.lcmp, 1) := by decide +kernel
theorem dX12_wordOf_181 : decode cX12_wordOf 181 = .ok (.ifCond .ne 8, 3) := by decide +kernel
theorem dX12_wordOf_184 : decode cX12_wordOf 184 = .ok (.bipush 14, 2) := by decide +kernel
theorem dX12_wordOf_186 : decode cX12_wordOf 186 = .ok (.goto 225, 3) := by decide +kernel
theorem dX12_wordOf_189 : decode cX12_wordOf 189 = .ok (.lload_n 0, 1) := by decide +kernel
theorem dX12_wordOf_190 : decode cX12_wordOf 190 = .ok (.ldc2_w 231, 3) := by decide +kernel
theorem dX12_wordOf_193 : decode cX12_wordOf 193 = .ok (.lcmp, 1) := by decide +kernel
theorem dX12_wordOf_194 : decode cX12_wordOf 194 = .ok (.ifCond .ne 8, 3) := by decide +kernel
theorem dX12_wordOf_197 : decode cX12_wordOf 197 = .ok (.bipush 15, 2) := by decide +kernel
theorem dX12_wordOf_199 : decode cX12_wordOf 199 = .ok (.goto 212, 3) := by decide +kernel
theorem dX12_wordOf_202 : decode cX12_wordOf 202 = .ok (.lload_n 0, 1) := by decide +kernel
theorem dX12_wordOf_203 : decode cX12_wordOf 203 = .ok (.ldc2_w 233, 3) := by decide +kernel
theorem dX12_wordOf_206 : decode cX12_wordOf 206 = .ok (.lcmp, 1) := by decide +kernel
theorem dX12_wordOf_207 : decode cX12_wordOf 207 = .ok (.ifCond .ne 8, 3) := by decide +kernel
theorem dX12_wordOf_210 : decode cX12_wordOf 210 = .ok (.bipush 16, 2) := by decide +kernel
theorem dX12_wordOf_212 : decode cX12_wordOf 212 = .ok (.goto 199, 3) := by decide +kernel
theorem dX12_wordOf_215 : decode cX12_wordOf 215 = .ok (.lload_n 0, 1) := by decide +kernel
theorem dX12_wordOf_216 : decode cX12_wordOf 216 = .ok (.ldc2_w 235, 3) := by decide +kernel
theorem dX12_wordOf_219 : decode cX12_wordOf 219 = .ok (.lcmp, 1) := by decide +kernel
theorem dX12_wordOf_220 : decode cX12_wordOf 220 = .ok (.ifCond .ne 8, 3) := by decide +kernel
theorem dX12_wordOf_223 : decode cX12_wordOf 223 = .ok (.bipush 17, 2) := by decide +kernel
theorem dX12_wordOf_225 : decode cX12_wordOf 225 = .ok (.goto 186, 3) := by decide +kernel
theorem dX12_wordOf_228 : decode cX12_wordOf 228 = .ok (.lload_n 0, 1) := by decide +kernel
theorem dX12_wordOf_229 : decode cX12_wordOf 229 = .ok (.ldc2_w 237, 3) := by decide +kernel
theorem dX12_wordOf_232 : decode cX12_wordOf 232 = .ok (.lcmp, 1) := by decide +kernel
theorem dX12_wordOf_233 : decode cX12_wordOf 233 = .ok (.ifCond .ne 8, 3) := by decide +kernel
theorem dX12_wordOf_236 : decode cX12_wordOf 236 = .ok (.bipush 18, 2) := by decide +kernel
theorem dX12_wordOf_238 : decode cX12_wordOf 238 = .ok (.goto 173, 3) := by decide +kernel
theorem dX12_wordOf_241 : decode cX12_wordOf 241 = .ok (.lload_n 0, 1) := by decide +kernel
theorem dX12_wordOf_242 : decode cX12_wordOf 242 = .ok (.ldc2_w 239, 3) := by decide +kernel
theorem dX12_wordOf_245 : decode cX12_wordOf 245 = .ok (.lcmp, 1) := by decide +kernel
theorem dX12_wordOf_246 : decode cX12_wordOf 246 = .ok (.ifCond .ne 8, 3) := by decide +kernel
theorem dX12_wordOf_249 : decode cX12_wordOf 249 = .ok (.bipush 19, 2) := by decide +kernel
theorem dX12_wordOf_251 : decode cX12_wordOf 251 = .ok (.goto 160, 3) := by decide +kernel
theorem dX12_wordOf_254 : decode cX12_wordOf 254 = .ok (.lload_n 0, 1) := by decide +kernel
theorem dX12_wordOf_255 : decode cX12_wordOf 255 = .ok (.ldc2_w 241, 3) := by decide +kernel
theorem dX12_wordOf_258 : decode cX12_wordOf 258 = .ok (.lcmp, 1) := by decide +kernel
theorem dX12_wordOf_259 : decode cX12_wordOf 259 = .ok (.ifCond .ne 8, 3) := by decide +kernel
theorem dX12_wordOf_262 : decode cX12_wordOf 262 = .ok (.bipush 20, 2) := by decide +kernel
theorem dX12_wordOf_264 : decode cX12_wordOf 264 = .ok (.goto 147, 3) := by decide +kernel
theorem dX12_wordOf_267 : decode cX12_wordOf 267 = .ok (.lload_n 0, 1) := by decide +kernel
theorem dX12_wordOf_268 : decode cX12_wordOf 268 = .ok (.ldc2_w 243, 3) := by decide +kernel
theorem dX12_wordOf_271 : decode cX12_wordOf 271 = .ok (.lcmp, 1) := by decide +kernel
theorem dX12_wordOf_272 : decode cX12_wordOf 272 = .ok (.ifCond .ne 8, 3) := by decide +kernel
theorem dX12_wordOf_275 : decode cX12_wordOf 275 = .ok (.bipush 21, 2) := by decide +kernel
theorem dX12_wordOf_277 : decode cX12_wordOf 277 = .ok (.goto 134, 3) := by decide +kernel
theorem dX12_wordOf_280 : decode cX12_wordOf 280 = .ok (.lload_n 0, 1) := by decide +kernel
theorem dX12_wordOf_281 : decode cX12_wordOf 281 = .ok (.ldc2_w 245, 3) := by decide +kernel
theorem dX12_wordOf_284 : decode cX12_wordOf 284 = .ok (.lcmp, 1) := by decide +kernel
theorem dX12_wordOf_285 : decode cX12_wordOf 285 = .ok (.ifCond .ne 8, 3) := by decide +kernel
theorem dX12_wordOf_288 : decode cX12_wordOf 288 = .ok (.bipush 22, 2) := by decide +kernel
theorem dX12_wordOf_290 : decode cX12_wordOf 290 = .ok (.goto 121, 3) := by decide +kernel
theorem dX12_wordOf_293 : decode cX12_wordOf 293 = .ok (.lload_n 0, 1) := by decide +kernel
theorem dX12_wordOf_294 : decode cX12_wordOf 294 = .ok (.ldc2_w 247, 3) := by decide +kernel
theorem dX12_wordOf_297 : decode cX12_wordOf 297 = .ok (.lcmp, 1) := by decide +kernel
theorem dX12_wordOf_298 : decode cX12_wordOf 298 = .ok (.ifCond .ne 8, 3) := by decide +kernel
theorem dX12_wordOf_301 : decode cX12_wordOf 301 = .ok (.bipush 23, 2) := by decide +kernel
theorem dX12_wordOf_303 : decode cX12_wordOf 303 = .ok (.goto 108, 3) := by decide +kernel
theorem dX12_wordOf_306 : decode cX12_wordOf 306 = .ok (.lload_n 0, 1) := by decide +kernel
theorem dX12_wordOf_307 : decode cX12_wordOf 307 = .ok (.ldc2_w 249, 3) := by decide +kernel
theorem dX12_wordOf_310 : decode cX12_wordOf 310 = .ok (.lcmp, 1) := by decide +kernel
theorem dX12_wordOf_311 : decode cX12_wordOf 311 = .ok (.ifCond .ne 8, 3) := by decide +kernel
theorem dX12_wordOf_314 : decode cX12_wordOf 314 = .ok (.bipush 24, 2) := by decide +kernel
theorem dX12_wordOf_316 : decode cX12_wordOf 316 = .ok (.goto 95, 3) := by decide +kernel
theorem dX12_wordOf_319 : decode cX12_wordOf 319 = .ok (.lload_n 0, 1) := by decide +kernel
theorem dX12_wordOf_320 : decode cX12_wordOf 320 = .ok (.ldc2_w 251, 3) := by decide +kernel
theorem dX12_wordOf_323 : decode cX12_wordOf 323 = .ok (.lcmp, 1) := by decide +kernel
theorem dX12_wordOf_324 : decode cX12_wordOf 324 = .ok (.ifCond .ne 8, 3) := by decide +kernel
theorem dX12_wordOf_327 : decode cX12_wordOf 327 = .ok (.bipush 25, 2) := by decide +kernel
theorem dX12_wordOf_329 : decode cX12_wordOf 329 = .ok (.goto 82, 3) := by decide +kernel
theorem dX12_wordOf_332 : decode cX12_wordOf 332 = .ok (.lload_n 0, 1) := by decide +kernel
theorem dX12_wordOf_333 : decode cX12_wordOf 333 = .ok (.ldc2_w 253, 3) := by decide +kernel
theorem dX12_wordOf_336 : decode cX12_wordOf 336 = .ok (.lcmp, 1) := by decide +kernel
theorem dX12_wordOf_337 : decode cX12_wordOf 337 = .ok (.ifCond .ne 8, 3) := by decide +kernel
theorem dX12_wordOf_340 : decode cX12_wordOf 340 = .ok (.bipush 26, 2) := by decide +kernel
theorem dX12_wordOf_342 : decode cX12_wordOf 342 = .ok (.goto 69, 3) := by decide +kernel
theorem dX12_wordOf_345 : decode cX12_wordOf 345 = .ok (.lload_n 0, 1) := by decide +kernel
theorem dX12_wordOf_346 : decode cX12_wordOf 346 = .ok (.ldc2_w 255, 3) := by decide +kernel
theorem dX12_wordOf_349 : decode cX12_wordOf 349 = .ok (.lcmp, 1) := by decide +kernel
theorem dX12_wordOf_350 : decode cX12_wordOf 350 = .ok (.ifCond .ne 8, 3) := by decide +kernel
theorem dX12_wordOf_353 : decode cX12_wordOf 353 = .ok (.bipush 27, 2) := by decide +kernel
theorem dX12_wordOf_355 : decode cX12_wordOf 355 = .ok (.goto 56, 3) := by decide +kernel
theorem dX12_wordOf_358 : decode cX12_wordOf 358 = .ok (.lload_n 0, 1) := by decide +kernel
theorem dX12_wordOf_359 : decode cX12_wordOf 359 = .ok (.ldc2_w 257, 3) := by decide +kernel
theorem dX12_wordOf_362 : decode cX12_wordOf 362 = .ok (.lcmp, 1) := by decide +kernel
theorem dX12_wordOf_363 : decode cX12_wordOf 363 = .ok (.ifCond .ne 8, 3) := by decide +kernel
theorem dX12_wordOf_366 : decode cX12_wordOf 366 = .ok (.bipush 28, 2) := by decide +kernel
theorem dX12_wordOf_368 : decode cX12_wordOf 368 = .ok (.goto 43, 3) := by decide +kernel
theorem dX12_wordOf_371 : decode cX12_wordOf 371 = .ok (.lload_n 0, 1) := by decide +kernel
theorem dX12_wordOf_372 : decode cX12_wordOf 372 = .ok (.ldc2_w 259, 3) := by decide +kernel
theorem dX12_wordOf_375 : decode cX12_wordOf 375 = .ok (.lcmp, 1) := by decide +kernel
theorem dX12_wordOf_376 : decode cX12_wordOf 376 = .ok (.ifCond .ne 8, 3) := by decide +kernel
theorem dX12_wordOf_379 : decode cX12_wordOf 379 = .ok (.bipush 29, 2) := by decide +kernel
theorem dX12_wordOf_381 : decode cX12_wordOf 381 = .ok (.goto 30, 3) := by decide +kernel
theorem dX12_wordOf_384 : decode cX12_wordOf 384 = .ok (.lload_n 0, 1) := by decide +kernel
theorem dX12_wordOf_385 : decode cX12_wordOf 385 = .ok (.ldc2_w 261, 3) := by decide +kernel
theorem dX12_wordOf_388 : decode cX12_wordOf 388 = .ok (.lcmp, 1) := by decide +kernel
theorem dX12_wordOf_389 : decode cX12_wordOf 389 = .ok (.ifCond .ne 8, 3) := by decide +kernel
theorem dX12_wordOf_392 : decode cX12_wordOf 392 = .ok (.bipush 30, 2) := by decide +kernel
theorem dX12_wordOf_394 : decode cX12_wordOf 394 = .ok (.goto 17, 3) := by decide +kernel
theorem dX12_wordOf_397 : decode cX12_wordOf 397 = .ok (.lload_n 0, 1) := by decide +kernel
theorem dX12_wordOf_398 : decode cX12_wordOf 398 = .ok (.ldc2_w 263, 3) := by decide +kernel
theorem dX12_wordOf_401 : decode cX12_wordOf 401 = .ok (.lcmp, 1) := by decide +kernel
theorem dX12_wordOf_402 : decode cX12_wordOf 402 = .ok (.ifCond .ne 8, 3) := by decide +kernel
theorem dX12_wordOf_405 : decode cX12_wordOf 405 = .ok (.bipush 31, 2) := by decide +kernel
theorem dX12_wordOf_407 : decode cX12_wordOf 407 = .ok (.goto 4, 3) := by decide +kernel
theorem dX12_wordOf_410 : decode cX12_wordOf 410 = .ok (.iconst (-1), 1) := by decide +kernel
theorem dX12_wordOf_411 : decode cX12_wordOf 411 = .ok (.ireturn, 1) := by decide +kernel
theorem dX12_next_0 : decode cX12_next 0 = .ok (.aload_n 0, 1) := by decide +kernel
theorem dX12_next_1 : decode cX12_next 1 = .ok (.getfield 265, 3) := by decide +kernel
theorem dX12_next_4 : decode cX12_next 4 = .ok (.aload_n 0, 1) := by decide +kernel
theorem dX12_next_5 : decode cX12_next 5 = .ok (.getfield 268, 3) := by decide +kernel
theorem dX12_next_8 : decode cX12_next 8 = .ok (.if_icmp .ge 44, 3) := by decide +kernel
theorem dX12_next_11 : decode cX12_next 11 = .ok (.aload_n 0, 1) := by decide +kernel
theorem dX12_next_12 : decode cX12_next 12 = .ok (.getfield 16, 3) := by decide +kernel
theorem dX12_next_15 : decode cX12_next 15 = .ok (.aload_n 0, 1) := by decide +kernel
theorem dX12_next_16 : decode cX12_next 16 = .ok (.getfield 265, 3) := by decide +kernel
theorem dX12_next_19 : decode cX12_next 19 = .ok (.baload, 1) := by decide +kernel
theorem dX12_next_20 : decode cX12_next 20 = .ok (.bipush 32, 2) := by decide +kernel
theorem dX12_next_22 : decode cX12_next 22 = .ok (.if_icmp .eq 17, 3) := by decide +kernel
theorem dX12_next_25 : decode cX12_next 25 = .ok (.aload_n 0, 1) := by decide +kernel
theorem dX12_next_26 : decode cX12_next 26 = .ok (.getfield 16, 3) := by decide +kernel
theorem dX12_next_29 : decode cX12_next 29 = .ok (.aload_n 0, 1) := by decide +kernel
theorem dX12_next_30 : decode cX12_next 30 = .ok (.getfield 265, 3) := by decide +kernel
theorem dX12_next_33 : decode cX12_next 33 = .ok (.baload, 1) := by decide +kernel
theorem dX12_next_34 : decode cX12_next 34 = .ok (.bipush 10, 2) := by decide +kernel
theorem dX12_next_36 : decode cX12_next 36 = .ok (.if_icmp .ne 16, 3) := by decide +kernel
theorem dX12_next_39 : decode cX12_next 39 = .ok (.aload_n 0, 1) := by decide +kernel
theorem dX12_next_40 : decode cX12_next 40 = .ok (.dup, 1) := by decide +kernel
theorem dX12_next_41 : decode cX12_next 41 = .ok (.getfield 265, 3) := by decide +kernel
theorem dX12_next_44 : decode cX12_next 44 = .ok (.iconst 1, 1) := by decide +kernel
theorem dX12_next_45 : decode cX12_next 45 = .ok (.iadd, 1) := by decide +kernel
theorem dX12_next_46 : decode cX12_next 46 = .ok (.putfield 265, 3) := by decide +kernel
theorem dX12_next_49 : decode cX12_next 49 = .ok (.goto (-49), 3) := by decide +kernel
theorem dX12_next_52 : decode cX12_next 52 = .ok (.aload_n 0, 1) := by decide +kernel
theorem dX12_next_53 : decode cX12_next 53 = .ok (.aload_n 0, 1) := by decide +kernel
theorem dX12_next_54 : decode cX12_next 54 = .ok (.getfield 265, 3) := by decide +kernel
theorem dX12_next_57 : decode cX12_next 57 = .ok (.putfield 271, 3) := by decide +kernel
theorem dX12_next_60 : decode cX12_next 60 = .ok (.aload_n 0, 1) := by decide +kernel
theorem dX12_next_61 : decode cX12_next 61 = .ok (.getfield 265, 3) := by decide +kernel
theorem dX12_next_64 : decode cX12_next 64 = .ok (.aload_n 0, 1) := by decide +kernel
theorem dX12_next_65 : decode cX12_next 65 = .ok (.getfield 268, 3) := by decide +kernel
theorem dX12_next_68 : decode cX12_next 68 = .ok (.if_icmp .ne 9, 3) := by decide +kernel
theorem dX12_next_71 : decode cX12_next 71 = .ok (.aload_n 0, 1) := by decide +kernel
theorem dX12_next_72 : decode cX12_next 72 = .ok (.iconst 0, 1) := by decide +kernel
theorem dX12_next_73 : decode cX12_next 73 = .ok (.putfield 274, 3) := by decide +kernel
theorem dX12_next_76 : decode cX12_next 76 = .ok (.return_, 1) := by decide +kernel
theorem dX12_next_77 : decode cX12_next 77 = .ok (.aload_n 0, 1) := by decide +kernel
theorem dX12_next_78 : decode cX12_next 78 = .ok (.getfield 16, 3) := by decide +kernel
theorem dX12_next_81 : decode cX12_next 81 = .ok (.aload_n 0, 1) := by decide +kernel
theorem dX12_next_82 : decode cX12_next 82 = .ok (.getfield 265, 3) := by decide +kernel
theorem dX12_next_85 : decode cX12_next 85 = .ok (.baload, 1) := by decide +kernel
theorem dX12_next_86 : decode cX12_next 86 = .ok (.istore_n 1, 1) := by decide +kernel
theorem dX12_next_87 : decode cX12_next 87 = .ok (.iload_n 1, 1) := by decide +kernel
theorem dX12_next_88 : decode cX12_next 88 = .ok (.invokestatic 277, 3) := by decide +kernel
theorem dX12_next_91 : decode cX12_next 91 = .ok (.ifCond .eq 120, 3) := by decide +kernel
theorem dX12_next_94 : decode cX12_next 94 = .ok (.lconst 0, 1) := by decide +kernel
theorem dX12_next_95 : decode cX12_next 95 = .ok (.lstore_n 2, 1) := by decide +kernel
theorem dX12_next_96 : decode cX12_next 96 = .ok (.iconst 0, 1) := by decide +kernel
theorem dX12_next_97 : decode cX12_next 97 = .ok (.istore 4, 2) := by decide +kernel
theorem dX12_next_99 : decode cX12_next 99 = .ok (.aload_n 0, 1) := by decide +kernel
theorem dX12_next_100 : decode cX12_next 100 = .ok (.getfield 265, 3) := by decide +kernel
theorem dX12_next_103 : decode cX12_next 103 = .ok (.aload_n 0, 1) := by decide +kernel
theorem dX12_next_104 : decode cX12_next 104 = .ok (.getfield 268, 3) := by decide +kernel
theorem dX12_next_107 : decode cX12_next 107 = .ok (.if_icmp .ge 66, 3) := by decide +kernel
theorem dX12_next_110 : decode cX12_next 110 = .ok (.aload_n 0, 1) := by decide +kernel
theorem dX12_next_111 : decode cX12_next 111 = .ok (.getfield 16, 3) := by decide +kernel
theorem dX12_next_114 : decode cX12_next 114 = .ok (.aload_n 0, 1) := by decide +kernel
theorem dX12_next_115 : decode cX12_next 115 = .ok (.getfield 265, 3) := by decide +kernel
theorem dX12_next_118 : decode cX12_next 118 = .ok (.baload, 1) := by decide +kernel
theorem dX12_next_119 : decode cX12_next 119 = .ok (.invokestatic 277, 3) := by decide +kernel
theorem dX12_next_122 : decode cX12_next 122 = .ok (.ifCond .eq 51, 3) := by decide +kernel
theorem dX12_next_125 : decode cX12_next 125 = .ok (.iload 4, 2) := by decide +kernel
theorem dX12_next_127 : decode cX12_next 127 = .ok (.bipush 8, 2) := by decide +kernel
theorem dX12_next_129 : decode cX12_next 129 = .ok (.if_icmp .ge 26, 3) := by decide +kernel
theorem dX12_next_132 : decode cX12_next 132 = .ok (.ldc2_w 280, 3) := by decide +kernel
theorem dX12_next_135 : decode cX12_next 135 = .ok (.lload_n 2, 1) := by decide +kernel
theorem dX12_next_136 : decode cX12_next 136 = .ok (.lmul, 1) := by decide +kernel
theorem dX12_next_137 : decode cX12_next 137 = .ok (.aload_n 0, 1) := by decide +kernel
theorem dX12_next_138 : decode cX12_next 138 = .ok (.getfield 16, 3) := by decide +kernel
theorem dX12_next_141 : decode cX12_next 141 = .ok (.aload_n 0, 1) := by decide +kernel
theorem dX12_next_142 : decode cX12_next 142 = .ok (.getfield 265, 3) := by decide +kernel
theorem dX12_next_145 : decode cX12_next 145 = .ok (.baload, 1) := by decide +kernel
theorem dX12_next_146 : decode cX12_next 146 = .ok (.i2l, 1) := by decide +kernel
theorem dX12_next_147 : decode cX12_next 147 = .ok (.ladd, 1) := by decide +kernel
theorem dX12_next_148 : decode cX12_next 148 = .ok (.ldc2_w 280, 3) := by decide +kernel
theorem dX12_next_151 : decode cX12_next 151 = .ok (.lsub, 1) := by decide +kernel
theorem dX12_next_152 : decode cX12_next 152 = .ok (.goto 4, 3) := by decide +kernel
theorem dX12_next_155 : decode cX12_next 155 = .ok (.lload_n 2, 1) := by decide +kernel
theorem dX12_next_156 : decode cX12_next 156 = .ok (.lstore_n 2, 1) := by decide +kernel
theorem dX12_next_157 : decode cX12_next 157 = .ok (.iinc 4 1, 3) := by decide +kernel
theorem dX12_next_160 : decode cX12_next 160 = .ok (.aload_n 0, 1) := by decide +kernel
theorem dX12_next_161 : decode cX12_next 161 = .ok (.dup, 1) := by decide +kernel
theorem dX12_next_162 : decode cX12_next 162 = .ok (.getfield 265, 3) := by decide +kernel
theorem dX12_next_165 : decode cX12_next 165 = .ok (.iconst 1, 1) := by decide +kernel
theorem dX12_next_166 : decode cX12_next 166 = .ok (.iadd, 1) := by decide +kernel
theorem dX12_next_167 : decode cX12_next 167 = .ok (.putfield 265, 3) := by decide +kernel
theorem dX12_next_170 : decode cX12_next 170 = .ok (.goto (-71), 3) := by decide +kernel
theorem dX12_next_173 : decode cX12_next 173 = .ok (.aload_n 0, 1) := by decide +kernel
theorem dX12_next_174 : decode cX12_next 174 = .ok (.iload 4, 2) := by decide +kernel
theorem dX12_next_176 : decode cX12_next 176 = .ok (.bipush 7, 2) := by decide +kernel
theorem dX12_next_178 : decode cX12_next 178 = .ok (.if_icmp .le 7, 3) := by decide +kernel
theorem dX12_next_181 : decode cX12_next 181 = .ok (.iconst (-1), 1) := by decide +kernel
theorem dX12_next_182 : decode cX12_next 182 = .ok (.goto 7, 3) := by decide +kernel
theorem dX12_next_185 : decode cX12_next 185 = .ok (.lload_n 2, 1) := by decide +kernel
theorem dX12_next_186 : decode cX12_next 186 = .ok (.invokestatic 282, 3) := by decide +kernel
theorem dX12_next_189 : decode cX12_next 189 = .ok (.putfield 286, 3) := by decide +kernel
theorem dX12_next_192 : decode cX12_next 192 = .ok (.aload_n 0, 1) := by decide +kernel
theorem dX12_next_193 : decode cX12_next 193 = .ok (.aload_n 0, 1) := by decide +kernel
theorem dX12_next_194 : decode cX12_next 194 = .ok (.getfield 286, 3) := by decide +kernel
theorem dX12_next_197 : decode cX12_next 197 = .ok (.ifCond .ge 7, 3) := by decide +kernel
theorem dX12_next_200 : decode cX12_next 200 = .ok (.iconst 4, 1) := by decide +kernel
theorem dX12_next_201 : decode cX12_next 201 = .ok (.goto 4, 3) := by decide +kernel
theorem dX12_next_204 : decode cX12_next 204 = .ok (.iconst 1, 1) := by decide +kernel
theorem dX12_next_205 : decode cX12_next 205 = .ok (.putfield 274, 3) := by decide +kernel
theorem dX12_next_208 : decode cX12_next 208 = .ok (.goto 232, 3) := by decide +kernel
theorem dX12_next_211 : decode cX12_next 211 = .ok (.iload_n 1, 1) := by decide +kernel
theorem dX12_next_212 : decode cX12_next 212 = .ok (.bipush 48, 2) := by decide +kernel
theorem dX12_next_214 : decode cX12_next 214 = .ok (.bipush 57, 2) := by decide +kernel
theorem dX12_next_216 : decode cX12_next 216 = .ok (.invokestatic 173, 3) := by decide +kernel
theorem dX12_next_219 : decode cX12_next 219 = .ok (.ifCond .eq 97, 3) := by decide +kernel
theorem dX12_next_222 : decode cX12_next 222 = .ok (.aload_n 0, 1) := by decide +kernel
theorem dX12_next_223 : decode cX12_next 223 = .ok (.iconst 2, 1) := by decide +kernel
theorem dX12_next_224 : decode cX12_next 224 = .ok (.putfield 274, 3) := by decide +kernel
theorem dX12_next_227 : decode cX12_next 227 = .ok (.aload_n 0, 1) := by decide +kernel
theorem dX12_next_228 : decode cX12_next 228 = .ok (.iconst 0, 1) := by decide +kernel
theorem dX12_next_229 : decode cX12_next 229 = .ok (.putfield 286, 3) := by decide +kernel
theorem dX12_next_232 : decode cX12_next 232 = .ok (.aload_n 0, 1) := by decide +kernel
theorem dX12_next_233 : decode cX12_next 233 = .ok (.getfield 265, 3) := by decide +kernel
theorem dX12_next_236 : decode cX12_next 236 = .ok (.aload_n 0, 1) := by decide +kernel
theorem dX12_next_237 : decode cX12_next 237 = .ok (.getfield 268, 3) := by decide +kernel
theorem dX12_next_240 : decode cX12_next 240 = .ok (.if_icmp .ge 200, 3) := by decide +kernel
theorem dX12_next_243 : decode cX12_next 243 = .ok (.aload_n 0, 1) := by decide +kernel
theorem dX12_next_244 : decode cX12_next 244 = .ok (.getfield 16, 3) := by decide +kernel
theorem dX12_next_247 : decode cX12_next 247 = .ok (.aload_n 0, 1) := by decide +kernel
theorem dX12_next_248 : decode cX12_next 248 = .ok (.getfield 265, 3) := by decide +kernel
theorem dX12_next_251 : decode cX12_next 251 = .ok (.baload, 1) := by decide +kernel
theorem dX12_next_252 : decode cX12_next 252 = .ok (.bipush 48, 2) := by decide +kernel
theorem dX12_next_254 : decode cX12_next 254 = .ok (.bipush 57, 2) := by decide +kernel
theorem dX12_next_256 : decode cX12_next 256 = .ok (.invokestatic 173, 3) := by decide +kernel
theorem dX12_next_259 : decode cX12_next 259 = .ok (.ifCond .eq 181, 3) := by decide +kernel
theorem dX12_next_262 : decode cX12_next 262 = .ok (.aload_n 0, 1) := by decide +kernel
theorem dX12_next_263 : decode cX12_next 263 = .ok (.aload_n 0, 1) := by decide +kernel
theorem dX12_next_264 : decode cX12_next 264 = .ok (.getfield 286, 3) := by decide +kernel
theorem dX12_next_267 : decode cX12_next 267 = .ok (.ldc_w 289, 3) := by decide +kernel
theorem dX12_next_270 : decode cX12_next 270 = .ok (.if_icmp .le 10, 3) := by decide +kernel
theorem dX12_next_273 : decode cX12_next 273 = .ok (.aload_n 0, 1) := by decide +kernel
theorem dX12_next_274 : decode cX12_next 274 = .ok (.getfield 286, 3) := by decide +kernel
theorem dX12_next_277 : decode cX12_next 277 = .ok (.goto 23, 3) := by decide +kernel
theorem dX12_next_280 : decode cX12_next 280 = .ok (.bipush 10, 2) := by decide +kernel
theorem dX12_next_282 : decode cX12_next 282 = .ok (.aload_n 0, 1) := by decide +kernel
theorem dX12_next_283 : decode cX12_next 283 = .ok (.getfield 286, 3) := by decide +kernel
theorem dX12_next_286 : decode cX12_next 286 = .ok (.imul, 1) := by decide +kernel
theorem dX12_next_287 : decode cX12_next 287 = .ok (.aload_n 0, 1) := by decide +kernel
theorem dX12_next_288 : decode cX12_next 288 = .ok (.getfield 16, 3) := by decide +kernel
theorem dX12_next_291 : decode cX12_next 291 = .ok (.aload_n 0, 1) := by decide +kernel
theorem dX12_next_292 : decode cX12_next 292 = .ok (.getfield 265, 3) := by decide +kernel
theorem dX12_next_295 : decode cX12_next 295 = .ok (.baload, 1) := by decide +kernel
theorem dX12_next_296 : decode cX12_next 296 = .ok (.iadd, 1) := by decide +kernel
theorem dX12_next_297 : decode cX12_next 297 = .ok (.bipush 48, 2) := by decide +kernel
theorem dX12_next_299 : decode cX12_next 299 = .ok (.isub, 1) := by decide +kernel
theorem dX12_next_300 : decode cX12_next 300 = .ok (.putfield 286, 3) := by decide +kernel
theorem dX12_next_303 : decode cX12_next 303 = .ok (.aload_n 0, 1) := by decide +kernel
theorem dX12_next_304 : decode cX12_next 304 = .ok (.dup, 1) := by decide +kernel
theorem dX12_next_305 : decode cX12_next 305 = .ok (.getfield 265, 3) := by decide +kernel
theorem dX12_next_308 : decode cX12_next 308 = .ok (.iconst 1, 1) := by decide +kernel
theorem dX12_next_309 : decode cX12_next 309 = .ok (.iadd, 1) := by decide +kernel
theorem dX12_next_310 : decode cX12_next 310 = .ok (.putfield 265, 3) := by decide +kernel
theorem dX12_next_313 : decode cX12_next 313 = .ok (.goto (-81), 3) := by decide +kernel
theorem dX12_next_316 : decode cX12_next 316 = .ok (.aload_n 0, 1) := by decide +kernel
theorem dX12_next_317 : decode cX12_next 317 = .ok (.dup, 1) := by decide +kernel
theorem dX12_next_318 : decode cX12_next 318 = .ok (.getfield 265, 3) := by decide +kernel
theorem dX12_next_321 : decode cX12_next 321 = .ok (.iconst 1, 1) := by decide +kernel
theorem dX12_next_322 : decode cX12_next 322 = .ok (.iadd, 1) := by decide +kernel
theorem dX12_next_323 : decode cX12_next 323 = .ok (.putfield 265, 3) := by decide +kernel
theorem dX12_next_326 : decode cX12_next 326 = .ok (.aload_n 0, 1) := by decide +kernel
theorem dX12_next_327 : decode cX12_next 327 = .ok (.iload_n 1, 1) := by decide +kernel
theorem dX12_next_328 : decode cX12_next 328 = .ok (.putfield 286, 3) := by decide +kernel
theorem dX12_next_331 : decode cX12_next 331 = .ok (.aload_n 0, 1) := by decide +kernel
theorem dX12_next_332 : decode cX12_next 332 = .ok (.iload_n 1, 1) := by decide +kernel
theorem dX12_next_333 : decode cX12_next 333 = .ok (.bipush 59, 2) := by decide +kernel
theorem dX12_next_335 : decode cX12_next 335 = .ok (.bipush 62, 2) := by decide +kernel
theorem dX12_next_337 : decode cX12_next 337 = .ok (.invokestatic 173, 3) := by decide +kernel
theorem dX12_next_340 : decode cX12_next 340 = .ok (.ifCond .ne 26, 3) := by decide +kernel
theorem dX12_next_343 : decode cX12_next 343 = .ok (.iload_n 1, 1) := by decide +kernel
theorem dX12_next_344 : decode cX12_next 344 = .ok (.bipush 40, 2) := by decide +kernel
theorem dX12_next_346 : decode cX12_next 346 = .ok (.bipush 45, 2) := by decide +kernel
theorem dX12_next_348 : decode cX12_next 348 = .ok (.invokestatic 173, 3) := by decide +kernel
theorem dX12_next_351 : decode cX12_next 351 = .ok (.ifCond .ne 15, 3) := by decide +kernel
theorem dX12_next_354 : decode cX12_next 354 = .ok (.iload_n 1, 1) := by decide +kernel
theorem dX12_next_355 : decode cX12_next 355 = .ok (.bipush 47, 2) := by decide +kernel
theorem dX12_next_357 : decode cX12_next 357 = .ok (.if_icmp .eq 9, 3) := by decide +kernel
theorem dX12_next_360 : decode cX12_next 360 = .ok (.iload_n 1, 1) := by decide +kernel
theorem dX12_next_361 : decode cX12_next 361 = .ok (.bipush 35, 2) := by decide +kernel
theorem dX12_next_363 : decode cX12_next 363 = .ok (.if_icmp .ne 7, 3) := by decide +kernel
theorem dX12_next_366 : decode cX12_next 366 = .ok (.iconst 3, 1) := by decide +kernel
theorem dX12_next_367 : decode cX12_next 367 = .ok (.goto 4, 3) := by decide +kernel
theorem dX12_next_370 : decode cX12_next 370 = .ok (.iconst 4, 1) := by decide +kernel
theorem dX12_next_371 : decode cX12_next 371 = .ok (.putfield 274, 3) := by decide +kernel
theorem dX12_next_374 : decode cX12_next 374 = .ok (.iload_n 1, 1) := by decide +kernel
theorem dX12_next_375 : decode cX12_next 375 = .ok (.bipush 60, 2) := by decide +kernel
theorem dX12_next_377 : decode cX12_next 377 = .ok (.if_icmp .eq 9, 3) := by decide +kernel
theorem dX12_next_380 : decode cX12_next 380 = .ok (.iload_n 1, 1) := by decide +kernel
theorem dX12_next_381 : decode cX12_next 381 = .ok (.bipush 62, 2) := by decide +kernel
theorem dX12_next_383 : decode cX12_next 383 = .ok (.if_icmp .ne 57, 3) := by decide +kernel
theorem dX12_next_386 : decode cX12_next 386 = .ok (.aload_n 0, 1) := by decide +kernel
theorem dX12_next_387 : decode cX12_next 387 = .ok (.getfield 265, 3) := by decide +kernel
theorem dX12_next_390 : decode cX12_next 390 = .ok (.aload_n 0, 1) := by decide +kernel
theorem dX12_next_391 : decode cX12_next 391 = .ok (.getfield 268, 3) := by decide +kernel
theorem dX12_next_394 : decode cX12_next 394 = .ok (.if_icmp .ge 46, 3) := by decide +kernel
theorem dX12_next_397 : decode cX12_next 397 = .ok (.aload_n 0, 1) := by decide +kernel
theorem dX12_next_398 : decode cX12_next 398 = .ok (.getfield 16, 3) := by decide +kernel
theorem dX12_next_401 : decode cX12_next 401 = .ok (.aload_n 0, 1) := by decide +kernel
theorem dX12_next_402 : decode cX12_next 402 = .ok (.getfield 265, 3) := by decide +kernel
theorem dX12_next_405 : decode cX12_next 405 = .ok (.baload, 1) := by decide +kernel
theorem dX12_next_406 : decode cX12_next 406 = .ok (.bipush 61, 2) := by decide +kernel
theorem dX12_next_408 : decode cX12_next 408 = .ok (.if_icmp .ne 32, 3) := by decide +kernel
theorem dX12_next_411 : decode cX12_next 411 = .ok (.aload_n 0, 1) := by decide +kernel
theorem dX12_next_412 : decode cX12_next 412 = .ok (.iload_n 1, 1) := by decide +kernel
theorem dX12_next_413 : decode cX12_next 413 = .ok (.bipush 60, 2) := by decide +kernel
theorem dX12_next_415 : decode cX12_next 415 = .ok (.if_icmp .ne 9, 3) := by decide +kernel
theorem dX12_next_418 : decode cX12_next 418 = .ok (.sipush 300, 3) := by decide +kernel
theorem dX12_next_421 : decode cX12_next 421 = .ok (.goto 6, 3) := by decide +kernel
theorem dX12_next_424 : decode cX12_next 424 = .ok (.sipush 301, 3) := by decide +kernel
theorem dX12_next_427 : decode cX12_next 427 = .ok (.putfield 286, 3) := by decide +kernel
theorem dX12_next_430 : decode cX12_next 430 = .ok (.aload_n 0, 1) := by decide +kernel
theorem dX12_next_431 : decode cX12_next 431 = .ok (.dup, 1) := by decide +kernel
theorem dX12_next_432 : decode cX12_next 432 = .ok (.getfield 265, 3) := by decide +kernel
theorem dX12_next_435 : decode cX12_next 435 = .ok (.iconst 1, 1) := by decide +kernel
theorem dX12_next_436 : decode cX12_next 436 = .ok (.iadd, 1) := by decide +kernel
theorem dX12_next_437 : decode cX12_next 437 = .ok (.putfield 265, 3) := by decide +kernel
theorem dX12_next_440 : decode cX12_next 440 = .ok (.return_, 1) := by decide +kernel
theorem dX12_isSign_0 : decode cX12_isSign 0 = .ok (.aload_n 0, 1) := by decide +kernel
theorem dX12_isSign_1 : decode cX12_isSign 1 = .ok (.getfield 274, 3) := by decide +kernel
theorem dX12_isSign_4 : decode cX12_isSign 4 = .ok (.iconst 3, 1) := by decide +kernel
theorem dX12_isSign_5 : decode cX12_isSign 5 = .ok (.if_icmp .ne 15, 3) := by decide +kernel
theorem dX12_isSign_8 : decode cX12_isSign 8 = .ok (.aload_n 0, 1) := by decide +kernel
theorem dX12_isSign_9 : decode cX12_isSign 9 = .ok (.getfield 286, 3) := by decide +kernel
theorem dX12_isSign_12 : decode cX12_isSign 12 = .ok (.iload_n 1, 1) := by decide +kernel
theorem dX12_isSign_13 : decode cX12_isSign 13 = .ok (.if_icmp .ne 7, 3) := by decide +kernel
theorem dX12_isSign_16 : decode cX12_isSign 16 = .ok (.iconst 1, 1) := by decide +kernel
theorem dX12_isSign_17 : decode cX12_isSign 17 = .ok (.goto 4, 3) := by decide +kernel
theorem dX12_isSign_20 : decode cX12_isSign 20 = .ok (.iconst 0, 1) := by decide +kernel
theorem dX12_isSign_21 : decode cX12_isSign 21 = .ok (.ireturn, 1) := by decide +kernel
theorem dX12_isWord_0 : decode cX12_isWord 0 = .ok (.aload_n 0, 1) := by decide +kernel
theorem dX12_isWord_1 : decode cX12_isWord 1 = .ok (.getfield 274, 3) := by decide +kernel
theorem dX12_isWord_4 : decode cX12_isWord 4 = .ok (.iconst 1, 1) := by decide +kernel
theorem dX12_isWord_5 : decode cX12_isWord 5 = .ok (.if_icmp .ne 15, 3) := by decide +kernel
theorem dX12_isWord_8 : decode cX12_isWord 8 = .ok (.aload_n 0, 1) := by decide +kernel
theorem dX12_isWord_9 : decode cX12_isWord 9 = .ok (.getfield 286, 3) := by decide +kernel
theorem dX12_isWord_12 : decode cX12_isWord 12 = .ok (.iload_n 1, 1) := by decide +kernel
theorem dX12_isWord_13 : decode cX12_isWord 13 = .ok (.if_icmp .ne 7, 3) := by decide +kernel
theorem dX12_isWord_16 : decode cX12_isWord 16 = .ok (.iconst 1, 1) := by decide +kernel
theorem dX12_isWord_17 : decode cX12_isWord 17 = .ok (.goto 4, 3) := by decide +kernel
theorem dX12_isWord_20 : decode cX12_isWord 20 = .ok (.iconst 0, 1) := by decide +kernel
theorem dX12_isWord_21 : decode cX12_isWord 21 = .ok (.ireturn, 1) := by decide +kernel
theorem dX12_errs_0 : decode cX12_errs 0 = .ok (.aload_n 0, 1) := by decide +kernel
theorem dX12_errs_1 : decode cX12_errs 1 = .ok (.getfield 290, 3) := by decide +kernel
theorem dX12_errs_4 : decode cX12_errs 4 = .ok (.ifCond .ne 16, 3) := by decide +kernel
theorem dX12_errs_7 : decode cX12_errs 7 = .ok (.aload_n 0, 1) := by decide +kernel
theorem dX12_errs_8 : decode cX12_errs 8 = .ok (.iload_n 1, 1) := by decide +kernel
theorem dX12_errs_9 : decode cX12_errs 9 = .ok (.putfield 290, 3) := by decide +kernel
theorem dX12_errs_12 : decode cX12_errs 12 = .ok (.aload_n 0, 1) := by decide +kernel
theorem dX12_errs_13 : decode cX12_errs 13 = .ok (.aload_n 0, 1) := by decide +kernel
theorem dX12_errs_14 : decode cX12_errs 14 = .ok (.getfield 271, 3) := by decide +kernel
theorem dX12_errs_17 : decode cX12_errs 17 = .ok (.putfield 293, 3) := by decide +kernel
theorem dX12_errs_20 : decode cX12_errs 20 = .ok (.return_, 1) := by decide +kernel
theorem dX12_emits_0 : decode cX12_emits 0 = .ok (.aload_n 0, 1) := by decide +kernel
theorem dX12_emits_1 : decode cX12_emits 1 = .ok (.getfield 81, 3) := by decide +kernel
theorem dX12_emits_4 : decode cX12_emits 4 = .ok (.aload_n 0, 1) := by decide +kernel
theorem dX12_emits_5 : decode cX12_emits 5 = .ok (.getfield 296, 3) := by decide +kernel
theorem dX12_emits_8 : decode cX12_emits 8 = .ok (.iload_n 1, 1) := by decide +kernel
theorem dX12_emits_9 : decode cX12_emits 9 = .ok (.iastore, 1) := by decide +kernel
theorem dX12_emits_10 : decode cX12_emits 10 = .ok (.aload_n 0, 1) := by decide +kernel
theorem dX12_emits_11 : decode cX12_emits 11 = .ok (.getfield 84, 3) := by decide +kernel
theorem dX12_emits_14 : decode cX12_emits 14 = .ok (.aload_n 0, 1) := by decide +kernel
theorem dX12_emits_15 : decode cX12_emits 15 = .ok (.getfield 296, 3) := by decide +kernel
theorem dX12_emits_18 : decode cX12_emits 18 = .ok (.iload_n 2, 1) := by decide +kernel
theorem dX12_emits_19 : decode cX12_emits 19 = .ok (.iastore, 1) := by decide +kernel
theorem dX12_emits_20 : decode cX12_emits 20 = .ok (.aload_n 0, 1) := by decide +kernel
theorem dX12_emits_21 : decode cX12_emits 21 = .ok (.dup, 1) := by decide +kernel
theorem dX12_emits_22 : decode cX12_emits 22 = .ok (.getfield 296, 3) := by decide +kernel
theorem dX12_emits_25 : decode cX12_emits 25 = .ok (.iconst 1, 1) := by decide +kernel
theorem dX12_emits_26 : decode cX12_emits 26 = .ok (.iadd, 1) := by decide +kernel
theorem dX12_emits_27 : decode cX12_emits 27 = .ok (.putfield 296, 3) := by decide +kernel
theorem dX12_emits_30 : decode cX12_emits 30 = .ok (.return_, 1) := by decide +kernel
theorem dX12_opensFrame_0 : decode cX12_opensFrame 0 = .ok (.aload_n 0, 1) := by decide +kernel
theorem dX12_opensFrame_1 : decode cX12_opensFrame 1 = .ok (.getfield 51, 3) := by decide +kernel
theorem dX12_opensFrame_4 : decode cX12_opensFrame 4 = .ok (.aload_n 0, 1) := by decide +kernel
theorem dX12_opensFrame_5 : decode cX12_opensFrame 5 = .ok (.getfield 299, 3) := by decide +kernel
theorem dX12_opensFrame_8 : decode cX12_opensFrame 8 = .ok (.iload_n 1, 1) := by decide +kernel
theorem dX12_opensFrame_9 : decode cX12_opensFrame 9 = .ok (.iastore, 1) := by decide +kernel
theorem dX12_opensFrame_10 : decode cX12_opensFrame 10 = .ok (.aload_n 0, 1) := by decide +kernel
theorem dX12_opensFrame_11 : decode cX12_opensFrame 11 = .ok (.dup, 1) := by decide +kernel
theorem dX12_opensFrame_12 : decode cX12_opensFrame 12 = .ok (.getfield 299, 3) := by decide +kernel
theorem dX12_opensFrame_15 : decode cX12_opensFrame 15 = .ok (.iconst 1, 1) := by decide +kernel
theorem dX12_opensFrame_16 : decode cX12_opensFrame 16 = .ok (.iadd, 1) := by decide +kernel
theorem dX12_opensFrame_17 : decode cX12_opensFrame 17 = .ok (.putfield 299, 3) := by decide +kernel
theorem dX12_opensFrame_20 : decode cX12_opensFrame 20 = .ok (.return_, 1) := by decide +kernel
theorem dX12_top_0 : decode cX12_top 0 = .ok (.aload_n 0, 1) := by decide +kernel
theorem dX12_top_1 : decode cX12_top 1 = .ok (.getfield 51, 3) := by decide +kernel
theorem dX12_top_4 : decode cX12_top 4 = .ok (.aload_n 0, 1) := by decide +kernel
theorem dX12_top_5 : decode cX12_top 5 = .ok (.getfield 299, 3) := by decide +kernel
theorem dX12_top_8 : decode cX12_top 8 = .ok (.iconst 1, 1) := by decide +kernel
theorem dX12_top_9 : decode cX12_top 9 = .ok (.isub, 1) := by decide +kernel
theorem dX12_top_10 : decode cX12_top 10 = .ok (.iaload, 1) := by decide +kernel
theorem dX12_top_11 : decode cX12_top 11 = .ok (.ireturn, 1) := by decide +kernel
theorem dX12_opensSign_0 : decode cX12_opensSign 0 = .ok (.aload_n 0, 1) := by decide +kernel
theorem dX12_opensSign_1 : decode cX12_opensSign 1 = .ok (.getfield 302, 3) := by decide +kernel
theorem dX12_opensSign_4 : decode cX12_opensSign 4 = .ok (.bipush 8, 2) := by decide +kernel
theorem dX12_opensSign_6 : decode cX12_opensSign 6 = .ok (.if_icmp .ne 10, 3) := by decide +kernel
theorem dX12_opensSign_9 : decode cX12_opensSign 9 = .ok (.aload_n 0, 1) := by decide +kernel
theorem dX12_opensSign_10 : decode cX12_opensSign 10 = .ok (.iconst 3, 1) := by decide +kernel
theorem dX12_opensSign_11 : decode cX12_opensSign 11 = .ok (.invokevirtual 305, 3) := by decide +kernel
theorem dX12_opensSign_14 : decode cX12_opensSign 14 = .ok (.iconst 0, 1) := by decide +kernel
theorem dX12_opensSign_15 : decode cX12_opensSign 15 = .ok (.ireturn, 1) := by decide +kernel
theorem dX12_opensSign_16 : decode cX12_opensSign 16 = .ok (.aload_n 0, 1) := by decide +kernel
theorem dX12_opensSign_17 : decode cX12_opensSign 17 = .ok (.dup, 1) := by decide +kernel
theorem dX12_opensSign_18 : decode cX12_opensSign 18 = .ok (.getfield 302, 3) := by decide +kernel
theorem dX12_opensSign_21 : decode cX12_opensSign 21 = .ok (.iconst 1, 1) := by decide +kernel
theorem dX12_opensSign_22 : decode cX12_opensSign 22 = .ok (.iadd, 1) := by decide +kernel
theorem dX12_opensSign_23 : decode cX12_opensSign 23 = .ok (.putfield 302, 3) := by decide +kernel
theorem dX12_opensSign_26 : decode cX12_opensSign 26 = .ok (.aload_n 0, 1) := by decide +kernel
theorem dX12_opensSign_27 : decode cX12_opensSign 27 = .ok (.iload_n 1, 1) := by decide +kernel
theorem dX12_opensSign_28 : decode cX12_opensSign 28 = .ok (.invokevirtual 308, 3) := by decide +kernel
theorem dX12_opensSign_31 : decode cX12_opensSign 31 = .ok (.aload_n 0, 1) := by decide +kernel
theorem dX12_opensSign_32 : decode cX12_opensSign 32 = .ok (.invokevirtual 311, 3) := by decide +kernel
theorem dX12_opensSign_35 : decode cX12_opensSign 35 = .ok (.iconst 1, 1) := by decide +kernel
theorem dX12_opensSign_36 : decode cX12_opensSign 36 = .ok (.ireturn, 1) := by decide +kernel
theorem dX12_rank_0 : decode cX12_rank 0 = .ok (.iload_n 0, 1) := by decide +kernel
theorem dX12_rank_1 : decode cX12_rank 1 = .ok (.sipush 407, 3) := by decide +kernel
theorem dX12_rank_4 : decode cX12_rank 4 = .ok (.if_icmp .ne 7, 3) := by decide +kernel
theorem dX12_rank_7 : decode cX12_rank 7 = .ok (.iconst 1, 1) := by decide +kernel
theorem dX12_rank_8 : decode cX12_rank 8 = .ok (.goto 31, 3) := by decide +kernel
theorem dX12_rank_11 : decode cX12_rank 11 = .ok (.iload_n 0, 1) := by decide +kernel
theorem dX12_rank_12 : decode cX12_rank 12 = .ok (.sipush 406, 3) := by decide +kernel
theorem dX12_rank_15 : decode cX12_rank 15 = .ok (.if_icmp .ne 7, 3) := by decide +kernel
theorem dX12_rank_18 : decode cX12_rank 18 = .ok (.iconst 2, 1) := by decide +kernel
theorem dX12_rank_19 : decode cX12_rank 19 = .ok (.goto 20, 3) := by decide +kernel
theorem dX12_rank_22 : decode cX12_rank 22 = .ok (.iload_n 0, 1) := by decide +kernel
theorem dX12_rank_23 : decode cX12_rank 23 = .ok (.bipush 43, 2) := by decide +kernel
theorem dX12_rank_25 : decode cX12_rank 25 = .ok (.if_icmp .eq 9, 3) := by decide +kernel
theorem dX12_rank_28 : decode cX12_rank 28 = .ok (.iload_n 0, 1) := by decide +kernel
theorem dX12_rank_29 : decode cX12_rank 29 = .ok (.bipush 45, 2) := by decide +kernel
theorem dX12_rank_31 : decode cX12_rank 31 = .ok (.if_icmp .ne 7, 3) := by decide +kernel
theorem dX12_rank_34 : decode cX12_rank 34 = .ok (.iconst 3, 1) := by decide +kernel
theorem dX12_rank_35 : decode cX12_rank 35 = .ok (.goto 4, 3) := by decide +kernel
theorem dX12_rank_38 : decode cX12_rank 38 = .ok (.iconst 4, 1) := by decide +kernel
theorem dX12_rank_39 : decode cX12_rank 39 = .ok (.ireturn, 1) := by decide +kernel
theorem dX12_works_0 : decode cX12_works 0 = .ok (.aload_n 0, 1) := by decide +kernel
theorem dX12_works_1 : decode cX12_works 1 = .ok (.getfield 314, 3) := by decide +kernel
theorem dX12_works_4 : decode cX12_works 4 = .ok (.ifCond .le 66, 3) := by decide +kernel
theorem dX12_works_7 : decode cX12_works 7 = .ok (.aload_n 0, 1) := by decide +kernel
theorem dX12_works_8 : decode cX12_works 8 = .ok (.getfield 60, 3) := by decide +kernel
theorem dX12_works_11 : decode cX12_works 11 = .ok (.aload_n 0, 1) := by decide +kernel
theorem dX12_works_12 : decode cX12_works 12 = .ok (.getfield 314, 3) := by decide +kernel
theorem dX12_works_15 : decode cX12_works 15 = .ok (.iconst 1, 1) := by decide +kernel
theorem dX12_works_16 : decode cX12_works 16 = .ok (.isub, 1) := by decide +kernel
theorem dX12_works_17 : decode cX12_works 17 = .ok (.iaload, 1) := by decide +kernel
theorem dX12_works_18 : decode cX12_works 18 = .ok (.aload_n 0, 1) := by decide +kernel
theorem dX12_works_19 : decode cX12_works 19 = .ok (.getfield 299, 3) := by decide +kernel
theorem dX12_works_22 : decode cX12_works 22 = .ok (.if_icmp .ne 48, 3) := by decide +kernel
theorem dX12_works_25 : decode cX12_works 25 = .ok (.aload_n 0, 1) := by decide +kernel
theorem dX12_works_26 : decode cX12_works 26 = .ok (.getfield 57, 3) := by decide +kernel
theorem dX12_works_29 : decode cX12_works 29 = .ok (.aload_n 0, 1) := by decide +kernel
theorem dX12_works_30 : decode cX12_works 30 = .ok (.getfield 314, 3) := by decide +kernel
theorem dX12_works_33 : decode cX12_works 33 = .ok (.iconst 1, 1) := by decide +kernel
theorem dX12_works_34 : decode cX12_works 34 = .ok (.isub, 1) := by decide +kernel
theorem dX12_works_35 : decode cX12_works 35 = .ok (.iaload, 1) := by decide +kernel
theorem dX12_works_36 : decode cX12_works 36 = .ok (.invokestatic 317, 3) := by decide +kernel
theorem dX12_works_39 : decode cX12_works 39 = .ok (.iload_n 1, 1) := by decide +kernel
theorem dX12_works_40 : decode cX12_works 40 = .ok (.if_icmp .lt 30, 3) := by decide +kernel
theorem dX12_works_43 : decode cX12_works 43 = .ok (.aload_n 0, 1) := by decide +kernel
theorem dX12_works_44 : decode cX12_works 44 = .ok (.dup, 1) := by decide +kernel
theorem dX12_works_45 : decode cX12_works 45 = .ok (.getfield 314, 3) := by decide +kernel
theorem dX12_works_48 : decode cX12_works 48 = .ok (.iconst 1, 1) := by decide +kernel
theorem dX12_works_49 : decode cX12_works 49 = .ok (.isub, 1) := by decide +kernel
theorem dX12_works_50 : decode cX12_works 50 = .ok (.putfield 314, 3) := by decide +kernel
theorem dX12_works_53 : decode cX12_works 53 = .ok (.aload_n 0, 1) := by decide +kernel
theorem dX12_works_54 : decode cX12_works 54 = .ok (.aload_n 0, 1) := by decide +kernel
theorem dX12_works_55 : decode cX12_works 55 = .ok (.getfield 57, 3) := by decide +kernel
theorem dX12_works_58 : decode cX12_works 58 = .ok (.aload_n 0, 1) := by decide +kernel
theorem dX12_works_59 : decode cX12_works 59 = .ok (.getfield 314, 3) := by decide +kernel
theorem dX12_works_62 : decode cX12_works 62 = .ok (.iaload, 1) := by decide +kernel
theorem dX12_works_63 : decode cX12_works 63 = .ok (.iconst 0, 1) := by decide +kernel
theorem dX12_works_64 : decode cX12_works 64 = .ok (.invokevirtual 321, 3) := by decide +kernel
theorem dX12_works_67 : decode cX12_works 67 = .ok (.goto (-67), 3) := by decide +kernel
theorem dX12_works_70 : decode cX12_works 70 = .ok (.return_, 1) := by decide +kernel
theorem dX12_waitsFor_0 : decode cX12_waitsFor 0 = .ok (.aload_n 0, 1) := by decide +kernel
theorem dX12_waitsFor_1 : decode cX12_waitsFor 1 = .ok (.iload_n 1, 1) := by decide +kernel
theorem dX12_waitsFor_2 : decode cX12_waitsFor 2 = .ok (.invokestatic 317, 3) := by decide +kernel
theorem dX12_waitsFor_5 : decode cX12_waitsFor 5 = .ok (.invokevirtual 325, 3) := by decide +kernel
theorem dX12_waitsFor_8 : decode cX12_waitsFor 8 = .ok (.aload_n 0, 1) := by decide +kernel
theorem dX12_waitsFor_9 : decode cX12_waitsFor 9 = .ok (.getfield 57, 3) := by decide +kernel
theorem dX12_waitsFor_12 : decode cX12_waitsFor 12 = .ok (.aload_n 0, 1) := by decide +kernel
theorem dX12_waitsFor_13 : decode cX12_waitsFor 13 = .ok (.getfield 314, 3) := by decide +kernel
theorem dX12_waitsFor_16 : decode cX12_waitsFor 16 = .ok (.iload_n 1, 1) := by decide +kernel
theorem dX12_waitsFor_17 : decode cX12_waitsFor 17 = .ok (.iastore, 1) := by decide +kernel
theorem dX12_waitsFor_18 : decode cX12_waitsFor 18 = .ok (.aload_n 0, 1) := by decide +kernel
theorem dX12_waitsFor_19 : decode cX12_waitsFor 19 = .ok (.getfield 60, 3) := by decide +kernel
theorem dX12_waitsFor_22 : decode cX12_waitsFor 22 = .ok (.aload_n 0, 1) := by decide +kernel
theorem dX12_waitsFor_23 : decode cX12_waitsFor 23 = .ok (.getfield 314, 3) := by decide +kernel
theorem dX12_waitsFor_26 : decode cX12_waitsFor 26 = .ok (.aload_n 0, 1) := by decide +kernel
theorem dX12_waitsFor_27 : decode cX12_waitsFor 27 = .ok (.getfield 299, 3) := by decide +kernel
theorem dX12_waitsFor_30 : decode cX12_waitsFor 30 = .ok (.iastore, 1) := by decide +kernel
theorem dX12_waitsFor_31 : decode cX12_waitsFor 31 = .ok (.aload_n 0, 1) := by decide +kernel
theorem dX12_waitsFor_32 : decode cX12_waitsFor 32 = .ok (.dup, 1) := by decide +kernel
theorem dX12_waitsFor_33 : decode cX12_waitsFor 33 = .ok (.getfield 314, 3) := by decide +kernel
theorem dX12_waitsFor_36 : decode cX12_waitsFor 36 = .ok (.iconst 1, 1) := by decide +kernel
theorem dX12_waitsFor_37 : decode cX12_waitsFor 37 = .ok (.iadd, 1) := by decide +kernel
theorem dX12_waitsFor_38 : decode cX12_waitsFor 38 = .ok (.putfield 314, 3) := by decide +kernel
theorem dX12_waitsFor_41 : decode cX12_waitsFor 41 = .ok (.aload_n 0, 1) := by decide +kernel
theorem dX12_waitsFor_42 : decode cX12_waitsFor 42 = .ok (.invokevirtual 311, 3) := by decide +kernel
theorem dX12_waitsFor_45 : decode cX12_waitsFor 45 = .ok (.return_, 1) := by decide +kernel
theorem dX12_asks_0 : decode cX12_asks 0 = .ok (.aload_n 0, 1) := by decide +kernel
theorem dX12_asks_1 : decode cX12_asks 1 = .ok (.bipush 16, 2) := by decide +kernel
theorem dX12_asks_3 : decode cX12_asks 3 = .ok (.invokevirtual 328, 3) := by decide +kernel
theorem dX12_asks_6 : decode cX12_asks 6 = .ok (.ifCond .eq 12, 3) := by decide +kernel
theorem dX12_asks_9 : decode cX12_asks 9 = .ok (.aload_n 0, 1) := by decide +kernel
theorem dX12_asks_10 : decode cX12_asks 10 = .ok (.iconst 3, 1) := by decide +kernel
theorem dX12_asks_11 : decode cX12_asks 11 = .ok (.invokevirtual 331, 3) := by decide +kernel
theorem dX12_asks_14 : decode cX12_asks 14 = .ok (.istore_n 1, 1) := by decide +kernel
theorem dX12_asks_15 : decode cX12_asks 15 = .ok (.goto 13, 3) := by decide +kernel
theorem dX12_asks_18 : decode cX12_asks 18 = .ok (.aload_n 0, 1) := by decide +kernel
theorem dX12_asks_19 : decode cX12_asks 19 = .ok (.iconst 4, 1) := by decide +kernel
theorem dX12_asks_20 : decode cX12_asks 20 = .ok (.invokevirtual 308, 3) := by decide +kernel
theorem dX12_asks_23 : decode cX12_asks 23 = .ok (.aload_n 0, 1) := by decide +kernel
theorem dX12_asks_24 : decode cX12_asks 24 = .ok (.iconst 1, 1) := by decide +kernel
theorem dX12_asks_25 : decode cX12_asks 25 = .ok (.putfield 334, 3) := by decide +kernel
theorem dX12_asks_28 : decode cX12_asks 28 = .ok (.return_, 1) := by decide +kernel
theorem dX12_mayName_0 : decode cX12_mayName 0 = .ok (.iload_n 0, 1) := by decide +kernel
theorem dX12_mayName_1 : decode cX12_mayName 1 = .ok (.iconst 3, 1) := by decide +kernel
theorem dX12_mayName_2 : decode cX12_mayName 2 = .ok (.if_icmp .lt 37, 3) := by decide +kernel
theorem dX12_mayName_5 : decode cX12_mayName 5 = .ok (.iload_n 1, 1) := by decide +kernel
theorem dX12_mayName_6 : decode cX12_mayName 6 = .ok (.iconst 3, 1) := by decide +kernel
theorem dX12_mayName_7 : decode cX12_mayName 7 = .ok (.if_icmp .ne 12, 3) := by decide +kernel
theorem dX12_mayName_10 : decode cX12_mayName 10 = .ok (.iload_n 0, 1) := by decide +kernel
theorem dX12_mayName_11 : decode cX12_mayName 11 = .ok (.bipush 9, 2) := by decide +kernel
theorem dX12_mayName_13 : decode cX12_mayName 13 = .ok (.if_icmp .ne 30, 3) := by decide +kernel
theorem dX12_mayName_16 : decode cX12_mayName 16 = .ok (.goto 23, 3) := by decide +kernel
theorem dX12_mayName_19 : decode cX12_mayName 19 = .ok (.iload_n 1, 1) := by decide +kernel
theorem dX12_mayName_20 : decode cX12_mayName 20 = .ok (.iconst 4, 1) := by decide +kernel
theorem dX12_mayName_21 : decode cX12_mayName 21 = .ok (.if_icmp .ne 12, 3) := by decide +kernel
theorem dX12_mayName_24 : decode cX12_mayName 24 = .ok (.iload_n 0, 1) := by decide +kernel
theorem dX12_mayName_25 : decode cX12_mayName 25 = .ok (.bipush 10, 2) := by decide +kernel
theorem dX12_mayName_27 : decode cX12_mayName 27 = .ok (.if_icmp .ne 16, 3) := by decide +kernel
theorem dX12_mayName_30 : decode cX12_mayName 30 = .ok (.goto 9, 3) := by decide +kernel
theorem dX12_mayName_33 : decode cX12_mayName 33 = .ok (.iload_n 0, 1) := by decide +kernel
theorem dX12_mayName_34 : decode cX12_mayName 34 = .ok (.bipush 9, 2) := by decide +kernel
theorem dX12_mayName_36 : decode cX12_mayName 36 = .ok (.if_icmp .ge 7, 3) := by decide +kernel
theorem dX12_mayName_39 : decode cX12_mayName 39 = .ok (.iconst 1, 1) := by decide +kernel
theorem dX12_mayName_40 : decode cX12_mayName 40 = .ok (.goto 4, 3) := by decide +kernel
theorem dX12_mayName_43 : decode cX12_mayName 43 = .ok (.iconst 0, 1) := by decide +kernel
theorem dX12_mayName_44 : decode cX12_mayName 44 = .ok (.ireturn, 1) := by decide +kernel
theorem dX12_nameNow_0 : decode cX12_nameNow 0 = .ok (.aload_n 0, 1) := by decide +kernel
theorem dX12_nameNow_1 : decode cX12_nameNow 1 = .ok (.getfield 274, 3) := by decide +kernel
theorem dX12_nameNow_4 : decode cX12_nameNow 4 = .ok (.iconst 1, 1) := by decide +kernel
theorem dX12_nameNow_5 : decode cX12_nameNow 5 = .ok (.if_icmp .eq 5, 3) := by decide +kernel
theorem dX12_nameNow_8 : decode cX12_nameNow 8 = .ok (.iconst (-1), 1) := by decide +kernel
theorem dX12_nameNow_9 : decode cX12_nameNow 9 = .ok (.ireturn, 1) := by decide +kernel
theorem dX12_nameNow_10 : decode cX12_nameNow 10 = .ok (.aload_n 0, 1) := by decide +kernel
theorem dX12_nameNow_11 : decode cX12_nameNow 11 = .ok (.getfield 286, 3) := by decide +kernel
theorem dX12_nameNow_14 : decode cX12_nameNow 14 = .ok (.bipush 20, 2) := by decide +kernel
theorem dX12_nameNow_16 : decode cX12_nameNow 16 = .ok (.if_icmp .le 15, 3) := by decide +kernel
theorem dX12_nameNow_19 : decode cX12_nameNow 19 = .ok (.aload_n 0, 1) := by decide +kernel
theorem dX12_nameNow_20 : decode cX12_nameNow 20 = .ok (.getfield 286, 3) := by decide +kernel
theorem dX12_nameNow_23 : decode cX12_nameNow 23 = .ok (.bipush 20, 2) := by decide +kernel
theorem dX12_nameNow_25 : decode cX12_nameNow 25 = .ok (.isub, 1) := by decide +kernel
theorem dX12_nameNow_26 : decode cX12_nameNow 26 = .ok (.iconst 1, 1) := by decide +kernel
theorem dX12_nameNow_27 : decode cX12_nameNow 27 = .ok (.isub, 1) := by decide +kernel
theorem dX12_nameNow_28 : decode cX12_nameNow 28 = .ok (.goto 4, 3) := by decide +kernel
theorem dX12_nameNow_31 : decode cX12_nameNow 31 = .ok (.iconst (-1), 1) := by decide +kernel
theorem dX12_nameNow_32 : decode cX12_nameNow 32 = .ok (.ireturn, 1) := by decide +kernel
theorem dX12_begins_0 : decode cX12_begins 0 = .ok (.aload_n 0, 1) := by decide +kernel
theorem dX12_begins_1 : decode cX12_begins 1 = .ok (.invokevirtual 337, 3) := by decide +kernel
theorem dX12_begins_4 : decode cX12_begins 4 = .ok (.istore_n 1, 1) := by decide +kernel
theorem dX12_begins_5 : decode cX12_begins 5 = .ok (.aload_n 0, 1) := by decide +kernel
theorem dX12_begins_6 : decode cX12_begins 6 = .ok (.getfield 274, 3) := by decide +kernel
theorem dX12_begins_9 : decode cX12_begins 9 = .ok (.iconst 2, 1) := by decide +kernel
theorem dX12_begins_10 : decode cX12_begins 10 = .ok (.if_icmp .ne 41, 3) := by decide +kernel
theorem dX12_begins_13 : decode cX12_begins 13 = .ok (.aload_n 0, 1) := by decide +kernel
theorem dX12_begins_14 : decode cX12_begins 14 = .ok (.getfield 286, 3) := by decide +kernel
theorem dX12_begins_17 : decode cX12_begins 17 = .ok (.sipush 9999, 3) := by decide +kernel
theorem dX12_begins_20 : decode cX12_begins 20 = .ok (.if_icmp .le 9, 3) := by decide +kernel
theorem dX12_begins_23 : decode cX12_begins 23 = .ok (.aload_n 0, 1) := by decide +kernel
theorem dX12_begins_24 : decode cX12_begins 24 = .ok (.iconst 2, 1) := by decide +kernel
theorem dX12_begins_25 : decode cX12_begins 25 = .ok (.invokevirtual 305, 3) := by decide +kernel
theorem dX12_begins_28 : decode cX12_begins 28 = .ok (.return_, 1) := by decide +kernel
theorem dX12_begins_29 : decode cX12_begins 29 = .ok (.aload_n 0, 1) := by decide +kernel
theorem dX12_begins_30 : decode cX12_begins 30 = .ok (.sipush 400, 3) := by decide +kernel
theorem dX12_begins_33 : decode cX12_begins 33 = .ok (.aload_n 0, 1) := by decide +kernel
theorem dX12_begins_34 : decode cX12_begins 34 = .ok (.getfield 286, 3) := by decide +kernel
theorem dX12_begins_37 : decode cX12_begins 37 = .ok (.invokevirtual 321, 3) := by decide +kernel
theorem dX12_begins_40 : decode cX12_begins 40 = .ok (.aload_n 0, 1) := by decide +kernel
theorem dX12_begins_41 : decode cX12_begins 41 = .ok (.invokevirtual 311, 3) := by decide +kernel
theorem dX12_begins_44 : decode cX12_begins 44 = .ok (.aload_n 0, 1) := by decide +kernel
theorem dX12_begins_45 : decode cX12_begins 45 = .ok (.invokevirtual 341, 3) := by decide +kernel
theorem dX12_begins_48 : decode cX12_begins 48 = .ok (.goto 112, 3) := by decide +kernel
theorem dX12_begins_51 : decode cX12_begins 51 = .ok (.iload_n 1, 1) := by decide +kernel
theorem dX12_begins_52 : decode cX12_begins 52 = .ok (.iconst (-1), 1) := by decide +kernel
theorem dX12_begins_53 : decode cX12_begins 53 = .ok (.if_icmp .eq 39, 3) := by decide +kernel
theorem dX12_begins_56 : decode cX12_begins 56 = .ok (.iload_n 1, 1) := by decide +kernel
theorem dX12_begins_57 : decode cX12_begins 57 = .ok (.aload_n 0, 1) := by decide +kernel
theorem dX12_begins_58 : decode cX12_begins 58 = .ok (.getfield 344, 3) := by decide +kernel
theorem dX12_begins_61 : decode cX12_begins 61 = .ok (.invokestatic 347, 3) := by decide +kernel
theorem dX12_begins_64 : decode cX12_begins 64 = .ok (.ifCond .ne 9, 3) := by decide +kernel
theorem dX12_begins_67 : decode cX12_begins 67 = .ok (.aload_n 0, 1) := by decide +kernel
theorem dX12_begins_68 : decode cX12_begins 68 = .ok (.iconst 5, 1) := by decide +kernel
theorem dX12_begins_69 : decode cX12_begins 69 = .ok (.invokevirtual 305, 3) := by decide +kernel
theorem dX12_begins_72 : decode cX12_begins 72 = .ok (.return_, 1) := by decide +kernel
theorem dX12_begins_73 : decode cX12_begins 73 = .ok (.aload_n 0, 1) := by decide +kernel
theorem dX12_begins_74 : decode cX12_begins 74 = .ok (.sipush 401, 3) := by decide +kernel
theorem dX12_begins_77 : decode cX12_begins 77 = .ok (.iload_n 1, 1) := by decide +kernel
theorem dX12_begins_78 : decode cX12_begins 78 = .ok (.invokevirtual 321, 3) := by decide +kernel
theorem dX12_begins_81 : decode cX12_begins 81 = .ok (.aload_n 0, 1) := by decide +kernel
theorem dX12_begins_82 : decode cX12_begins 82 = .ok (.invokevirtual 311, 3) := by decide +kernel
theorem dX12_begins_85 : decode cX12_begins 85 = .ok (.aload_n 0, 1) := by decide +kernel
theorem dX12_begins_86 : decode cX12_begins 86 = .ok (.invokevirtual 341, 3) := by decide +kernel
theorem dX12_begins_89 : decode cX12_begins 89 = .ok (.goto 71, 3) := by decide +kernel
theorem dX12_begins_92 : decode cX12_begins 92 = .ok (.aload_n 0, 1) := by decide +kernel
theorem dX12_begins_93 : decode cX12_begins 93 = .ok (.bipush 17, 2) := by decide +kernel
theorem dX12_begins_95 : decode cX12_begins 95 = .ok (.invokevirtual 328, 3) := by decide +kernel
theorem dX12_begins_98 : decode cX12_begins 98 = .ok (.ifCond .eq 19, 3) := by decide +kernel
theorem dX12_begins_101 : decode cX12_begins 101 = .ok (.aload_n 0, 1) := by decide +kernel
theorem dX12_begins_102 : decode cX12_begins 102 = .ok (.iconst 2, 1) := by decide +kernel
theorem dX12_begins_103 : decode cX12_begins 103 = .ok (.invokevirtual 331, 3) := by decide +kernel
theorem dX12_begins_106 : decode cX12_begins 106 = .ok (.ifCond .eq 54, 3) := by decide +kernel
theorem dX12_begins_109 : decode cX12_begins 109 = .ok (.aload_n 0, 1) := by decide +kernel
theorem dX12_begins_110 : decode cX12_begins 110 = .ok (.iconst 0, 1) := by decide +kernel
theorem dX12_begins_111 : decode cX12_begins 111 = .ok (.putfield 334, 3) := by decide +kernel
theorem dX12_begins_114 : decode cX12_begins 114 = .ok (.goto 46, 3) := by decide +kernel
theorem dX12_begins_117 : decode cX12_begins 117 = .ok (.aload_n 0, 1) := by decide +kernel
theorem dX12_begins_118 : decode cX12_begins 118 = .ok (.bipush 40, 2) := by decide +kernel
theorem dX12_begins_120 : decode cX12_begins 120 = .ok (.invokevirtual 351, 3) := by decide +kernel
theorem dX12_begins_123 : decode cX12_begins 123 = .ok (.ifCond .eq 13, 3) := by decide +kernel
theorem dX12_begins_126 : decode cX12_begins 126 = .ok (.aload_n 0, 1) := by decide +kernel
theorem dX12_begins_127 : decode cX12_begins 127 = .ok (.bipush 6, 2) := by decide +kernel
theorem dX12_begins_129 : decode cX12_begins 129 = .ok (.invokevirtual 331, 3) := by decide +kernel
theorem dX12_begins_132 : decode cX12_begins 132 = .ok (.istore_n 2, 1) := by decide +kernel
theorem dX12_begins_133 : decode cX12_begins 133 = .ok (.goto 27, 3) := by decide +kernel
theorem dX12_begins_136 : decode cX12_begins 136 = .ok (.aload_n 0, 1) := by decide +kernel
theorem dX12_begins_137 : decode cX12_begins 137 = .ok (.bipush 45, 2) := by decide +kernel
theorem dX12_begins_139 : decode cX12_begins 139 = .ok (.invokevirtual 351, 3) := by decide +kernel
theorem dX12_begins_142 : decode cX12_begins 142 = .ok (.ifCond .eq 13, 3) := by decide +kernel
theorem dX12_begins_145 : decode cX12_begins 145 = .ok (.aload_n 0, 1) := by decide +kernel
theorem dX12_begins_146 : decode cX12_begins 146 = .ok (.bipush 7, 2) := by decide +kernel
theorem dX12_begins_148 : decode cX12_begins 148 = .ok (.invokevirtual 331, 3) := by decide +kernel
theorem dX12_begins_151 : decode cX12_begins 151 = .ok (.istore_n 2, 1) := by decide +kernel
theorem dX12_begins_152 : decode cX12_begins 152 = .ok (.goto 8, 3) := by decide +kernel
theorem dX12_begins_155 : decode cX12_begins 155 = .ok (.aload_n 0, 1) := by decide +kernel
theorem dX12_begins_156 : decode cX12_begins 156 = .ok (.iconst 1, 1) := by decide +kernel
theorem dX12_begins_157 : decode cX12_begins 157 = .ok (.invokevirtual 305, 3) := by decide +kernel
theorem dX12_begins_160 : decode cX12_begins 160 = .ok (.return_, 1) := by decide +kernel
theorem dX12_oneIsOver_0 : decode cX12_oneIsOver 0 = .ok (.aload_n 0, 1) := by decide +kernel
theorem dX12_oneIsOver_1 : decode cX12_oneIsOver 1 = .ok (.invokevirtual 354, 3) := by decide +kernel
theorem dX12_oneIsOver_4 : decode cX12_oneIsOver 4 = .ok (.bipush 7, 2) := by decide +kernel
theorem dX12_oneIsOver_6 : decode cX12_oneIsOver 6 = .ok (.if_icmp .ne 34, 3) := by decide +kernel
theorem dX12_oneIsOver_9 : decode cX12_oneIsOver 9 = .ok (.aload_n 0, 1) := by decide +kernel
theorem dX12_oneIsOver_10 : decode cX12_oneIsOver 10 = .ok (.dup, 1) := by decide +kernel
theorem dX12_oneIsOver_11 : decode cX12_oneIsOver 11 = .ok (.getfield 299, 3) := by decide +kernel
theorem dX12_oneIsOver_14 : decode cX12_oneIsOver 14 = .ok (.iconst 1, 1) := by decide +kernel
theorem dX12_oneIsOver_15 : decode cX12_oneIsOver 15 = .ok (.isub, 1) := by decide +kernel
theorem dX12_oneIsOver_16 : decode cX12_oneIsOver 16 = .ok (.putfield 299, 3) := by decide +kernel
theorem dX12_oneIsOver_19 : decode cX12_oneIsOver 19 = .ok (.aload_n 0, 1) := by decide +kernel
theorem dX12_oneIsOver_20 : decode cX12_oneIsOver 20 = .ok (.dup, 1) := by decide +kernel
theorem dX12_oneIsOver_21 : decode cX12_oneIsOver 21 = .ok (.getfield 302, 3) := by decide +kernel
theorem dX12_oneIsOver_24 : decode cX12_oneIsOver 24 = .ok (.iconst 1, 1) := by decide +kernel
theorem dX12_oneIsOver_25 : decode cX12_oneIsOver 25 = .ok (.isub, 1) := by decide +kernel
theorem dX12_oneIsOver_26 : decode cX12_oneIsOver 26 = .ok (.putfield 302, 3) := by decide +kernel
theorem dX12_oneIsOver_29 : decode cX12_oneIsOver 29 = .ok (.aload_n 0, 1) := by decide +kernel
theorem dX12_oneIsOver_30 : decode cX12_oneIsOver 30 = .ok (.sipush 402, 3) := by decide +kernel
theorem dX12_oneIsOver_33 : decode cX12_oneIsOver 33 = .ok (.iconst 0, 1) := by decide +kernel
theorem dX12_oneIsOver_34 : decode cX12_oneIsOver 34 = .ok (.invokevirtual 321, 3) := by decide +kernel
theorem dX12_oneIsOver_37 : decode cX12_oneIsOver 37 = .ok (.goto (-37), 3) := by decide +kernel
theorem dX12_oneIsOver_40 : decode cX12_oneIsOver 40 = .ok (.aload_n 0, 1) := by decide +kernel
theorem dX12_oneIsOver_41 : decode cX12_oneIsOver 41 = .ok (.iconst 2, 1) := by decide +kernel
theorem dX12_oneIsOver_42 : decode cX12_oneIsOver 42 = .ok (.putfield 334, 3) := by decide +kernel
theorem dX12_oneIsOver_45 : decode cX12_oneIsOver 45 = .ok (.return_, 1) := by decide +kernel
theorem dX12_askIsOver_0 : decode cX12_askIsOver 0 = .ok (.aload_n 0, 1) := by decide +kernel
theorem dX12_askIsOver_1 : decode cX12_askIsOver 1 = .ok (.invokevirtual 354, 3) := by decide +kernel
theorem dX12_askIsOver_4 : decode cX12_askIsOver 4 = .ok (.iconst 3, 1) := by decide +kernel
theorem dX12_askIsOver_5 : decode cX12_askIsOver 5 = .ok (.if_icmp .ne 34, 3) := by decide +kernel
theorem dX12_askIsOver_8 : decode cX12_askIsOver 8 = .ok (.aload_n 0, 1) := by decide +kernel
theorem dX12_askIsOver_9 : decode cX12_askIsOver 9 = .ok (.dup, 1) := by decide +kernel
theorem dX12_askIsOver_10 : decode cX12_askIsOver 10 = .ok (.getfield 299, 3) := by decide +kernel
theorem dX12_askIsOver_13 : decode cX12_askIsOver 13 = .ok (.iconst 1, 1) := by decide +kernel
theorem dX12_askIsOver_14 : decode cX12_askIsOver 14 = .ok (.isub, 1) := by decide +kernel
theorem dX12_askIsOver_15 : decode cX12_askIsOver 15 = .ok (.putfield 299, 3) := by decide +kernel
theorem dX12_askIsOver_18 : decode cX12_askIsOver 18 = .ok (.aload_n 0, 1) := by decide +kernel
theorem dX12_askIsOver_19 : decode cX12_askIsOver 19 = .ok (.dup, 1) := by decide +kernel
theorem dX12_askIsOver_20 : decode cX12_askIsOver 20 = .ok (.getfield 302, 3) := by decide +kernel
theorem dX12_askIsOver_23 : decode cX12_askIsOver 23 = .ok (.iconst 1, 1) := by decide +kernel
theorem dX12_askIsOver_24 : decode cX12_askIsOver 24 = .ok (.isub, 1) := by decide +kernel
theorem dX12_askIsOver_25 : decode cX12_askIsOver 25 = .ok (.putfield 302, 3) := by decide +kernel
theorem dX12_askIsOver_28 : decode cX12_askIsOver 28 = .ok (.aload_n 0, 1) := by decide +kernel
theorem dX12_askIsOver_29 : decode cX12_askIsOver 29 = .ok (.sipush 405, 3) := by decide +kernel
theorem dX12_askIsOver_32 : decode cX12_askIsOver 32 = .ok (.iconst 0, 1) := by decide +kernel
theorem dX12_askIsOver_33 : decode cX12_askIsOver 33 = .ok (.invokevirtual 321, 3) := by decide +kernel
theorem dX12_askIsOver_36 : decode cX12_askIsOver 36 = .ok (.goto (-36), 3) := by decide +kernel
theorem dX12_askIsOver_39 : decode cX12_askIsOver 39 = .ok (.aload_n 0, 1) := by decide +kernel
theorem dX12_askIsOver_40 : decode cX12_askIsOver 40 = .ok (.iconst 3, 1) := by decide +kernel
theorem dX12_askIsOver_41 : decode cX12_askIsOver 41 = .ok (.putfield 334, 3) := by decide +kernel
theorem dX12_askIsOver_44 : decode cX12_askIsOver 44 = .ok (.return_, 1) := by decide +kernel
theorem dX12_isAsking_0 : decode cX12_isAsking 0 = .ok (.iload_n 0, 1) := by decide +kernel
theorem dX12_isAsking_1 : decode cX12_isAsking 1 = .ok (.bipush 60, 2) := by decide +kernel
theorem dX12_isAsking_3 : decode cX12_isAsking 3 = .ok (.if_icmp .eq 35, 3) := by decide +kernel
theorem dX12_isAsking_6 : decode cX12_isAsking 6 = .ok (.iload_n 0, 1) := by decide +kernel
theorem dX12_isAsking_7 : decode cX12_isAsking 7 = .ok (.bipush 62, 2) := by decide +kernel
theorem dX12_isAsking_9 : decode cX12_isAsking 9 = .ok (.if_icmp .eq 29, 3) := by decide +kernel
theorem dX12_isAsking_12 : decode cX12_isAsking 12 = .ok (.iload_n 0, 1) := by decide +kernel
theorem dX12_isAsking_13 : decode cX12_isAsking 13 = .ok (.bipush 61, 2) := by decide +kernel
theorem dX12_isAsking_15 : decode cX12_isAsking 15 = .ok (.if_icmp .eq 23, 3) := by decide +kernel
theorem dX12_isAsking_18 : decode cX12_isAsking 18 = .ok (.iload_n 0, 1) := by decide +kernel
theorem dX12_isAsking_19 : decode cX12_isAsking 19 = .ok (.bipush 35, 2) := by decide +kernel
theorem dX12_isAsking_21 : decode cX12_isAsking 21 = .ok (.if_icmp .eq 17, 3) := by decide +kernel
theorem dX12_isAsking_24 : decode cX12_isAsking 24 = .ok (.iload_n 0, 1) := by decide +kernel
theorem dX12_isAsking_25 : decode cX12_isAsking 25 = .ok (.sipush 300, 3) := by decide +kernel
theorem dX12_isAsking_28 : decode cX12_isAsking 28 = .ok (.if_icmp .eq 10, 3) := by decide +kernel
theorem dX12_isAsking_31 : decode cX12_isAsking 31 = .ok (.iload_n 0, 1) := by decide +kernel
theorem dX12_isAsking_32 : decode cX12_isAsking 32 = .ok (.sipush 301, 3) := by decide +kernel
theorem dX12_isAsking_35 : decode cX12_isAsking 35 = .ok (.if_icmp .ne 7, 3) := by decide +kernel
theorem dX12_isAsking_38 : decode cX12_isAsking 38 = .ok (.iconst 1, 1) := by decide +kernel
theorem dX12_isAsking_39 : decode cX12_isAsking 39 = .ok (.goto 4, 3) := by decide +kernel
theorem dX12_isAsking_42 : decode cX12_isAsking 42 = .ok (.iconst 0, 1) := by decide +kernel
theorem dX12_isAsking_43 : decode cX12_isAsking 43 = .ok (.ireturn, 1) := by decide +kernel
theorem dX12_turnsTo_0 : decode cX12_turnsTo 0 = .ok (.aload_n 0, 1) := by decide +kernel
theorem dX12_turnsTo_1 : decode cX12_turnsTo 1 = .ok (.getfield 63, 3) := by decide +kernel
theorem dX12_turnsTo_4 : decode cX12_turnsTo 4 = .ok (.aload_n 0, 1) := by decide +kernel
theorem dX12_turnsTo_5 : decode cX12_turnsTo 5 = .ok (.getfield 299, 3) := by decide +kernel
theorem dX12_turnsTo_8 : decode cX12_turnsTo 8 = .ok (.iaload, 1) := by decide +kernel
theorem dX12_turnsTo_9 : decode cX12_turnsTo 9 = .ok (.istore_n 3, 1) := by decide +kernel
theorem dX12_turnsTo_10 : decode cX12_turnsTo 10 = .ok (.aload_n 0, 1) := by decide +kernel
theorem dX12_turnsTo_11 : decode cX12_turnsTo 11 = .ok (.getfield 63, 3) := by decide +kernel
theorem dX12_turnsTo_14 : decode cX12_turnsTo 14 = .ok (.aload_n 0, 1) := by decide +kernel
theorem dX12_turnsTo_15 : decode cX12_turnsTo 15 = .ok (.getfield 299, 3) := by decide +kernel
theorem dX12_turnsTo_18 : decode cX12_turnsTo 18 = .ok (.aload_n 0, 1) := by decide +kernel
theorem dX12_turnsTo_19 : decode cX12_turnsTo 19 = .ok (.getfield 296, 3) := by decide +kernel
theorem dX12_turnsTo_22 : decode cX12_turnsTo 22 = .ok (.iastore, 1) := by decide +kernel
theorem dX12_turnsTo_23 : decode cX12_turnsTo 23 = .ok (.aload_n 0, 1) := by decide +kernel
theorem dX12_turnsTo_24 : decode cX12_turnsTo 24 = .ok (.iload_n 2, 1) := by decide +kernel
theorem dX12_turnsTo_25 : decode cX12_turnsTo 25 = .ok (.iconst 0, 1) := by decide +kernel
theorem dX12_turnsTo_26 : decode cX12_turnsTo 26 = .ok (.invokevirtual 321, 3) := by decide +kernel
theorem dX12_turnsTo_29 : decode cX12_turnsTo 29 = .ok (.iload_n 2, 1) := by decide +kernel
theorem dX12_turnsTo_30 : decode cX12_turnsTo 30 = .ok (.sipush 404, 3) := by decide +kernel
theorem dX12_turnsTo_33 : decode cX12_turnsTo 33 = .ok (.if_icmp .ne 13, 3) := by decide +kernel
theorem dX12_turnsTo_36 : decode cX12_turnsTo 36 = .ok (.aload_n 0, 1) := by decide +kernel
theorem dX12_turnsTo_37 : decode cX12_turnsTo 37 = .ok (.getfield 84, 3) := by decide +kernel
theorem dX12_turnsTo_40 : decode cX12_turnsTo 40 = .ok (.iload_n 3, 1) := by decide +kernel
theorem dX12_turnsTo_41 : decode cX12_turnsTo 41 = .ok (.aload_n 0, 1) := by decide +kernel
theorem dX12_turnsTo_42 : decode cX12_turnsTo 42 = .ok (.getfield 296, 3) := by decide +kernel
theorem dX12_turnsTo_45 : decode cX12_turnsTo 45 = .ok (.iastore, 1) := by decide +kernel
theorem dX12_turnsTo_46 : decode cX12_turnsTo 46 = .ok (.aload_n 0, 1) := by decide +kernel
theorem dX12_turnsTo_47 : decode cX12_turnsTo 47 = .ok (.getfield 51, 3) := by decide +kernel
theorem dX12_turnsTo_50 : decode cX12_turnsTo 50 = .ok (.aload_n 0, 1) := by decide +kernel
theorem dX12_turnsTo_51 : decode cX12_turnsTo 51 = .ok (.getfield 299, 3) := by decide +kernel
theorem dX12_turnsTo_54 : decode cX12_turnsTo 54 = .ok (.iconst 1, 1) := by decide +kernel
theorem dX12_turnsTo_55 : decode cX12_turnsTo 55 = .ok (.isub, 1) := by decide +kernel
theorem dX12_turnsTo_56 : decode cX12_turnsTo 56 = .ok (.iload_n 1, 1) := by decide +kernel
theorem dX12_turnsTo_57 : decode cX12_turnsTo 57 = .ok (.iastore, 1) := by decide +kernel
theorem dX12_turnsTo_58 : decode cX12_turnsTo 58 = .ok (.aload_n 0, 1) := by decide +kernel
theorem dX12_turnsTo_59 : decode cX12_turnsTo 59 = .ok (.invokevirtual 311, 3) := by decide +kernel
theorem dX12_turnsTo_62 : decode cX12_turnsTo 62 = .ok (.aload_n 0, 1) := by decide +kernel
theorem dX12_turnsTo_63 : decode cX12_turnsTo 63 = .ok (.iconst 1, 1) := by decide +kernel
theorem dX12_turnsTo_64 : decode cX12_turnsTo 64 = .ok (.putfield 334, 3) := by decide +kernel
theorem dX12_turnsTo_67 : decode cX12_turnsTo 67 = .ok (.return_, 1) := by decide +kernel
theorem dX12_goesOn_0 : decode cX12_goesOn 0 = .ok (.aload_n 0, 1) := by decide +kernel
theorem dX12_goesOn_1 : decode cX12_goesOn 1 = .ok (.invokevirtual 354, 3) := by decide +kernel
theorem dX12_goesOn_4 : decode cX12_goesOn 4 = .ok (.istore_n 1, 1) := by decide +kernel
theorem dX12_goesOn_5 : decode cX12_goesOn 5 = .ok (.aload_n 0, 1) := by decide +kernel
theorem dX12_goesOn_6 : decode cX12_goesOn 6 = .ok (.getfield 274, 3) := by decide +kernel
theorem dX12_goesOn_9 : decode cX12_goesOn 9 = .ok (.iconst 3, 1) := by decide +kernel
theorem dX12_goesOn_10 : decode cX12_goesOn 10 = .ok (.if_icmp .ne 55, 3) := by decide +kernel
theorem dX12_goesOn_13 : decode cX12_goesOn 13 = .ok (.aload_n 0, 1) := by decide +kernel
theorem dX12_goesOn_14 : decode cX12_goesOn 14 = .ok (.getfield 286, 3) := by decide +kernel
theorem dX12_goesOn_17 : decode cX12_goesOn 17 = .ok (.bipush 43, 2) := by decide +kernel
theorem dX12_goesOn_19 : decode cX12_goesOn 19 = .ok (.if_icmp .eq 30, 3) := by decide +kernel
theorem dX12_goesOn_22 : decode cX12_goesOn 22 = .ok (.aload_n 0, 1) := by decide +kernel
theorem dX12_goesOn_23 : decode cX12_goesOn 23 = .ok (.getfield 286, 3) := by decide +kernel
theorem dX12_goesOn_26 : decode cX12_goesOn 26 = .ok (.bipush 45, 2) := by decide +kernel
theorem dX12_goesOn_28 : decode cX12_goesOn 28 = .ok (.if_icmp .eq 21, 3) := by decide +kernel
theorem dX12_goesOn_31 : decode cX12_goesOn 31 = .ok (.aload_n 0, 1) := by decide +kernel
theorem dX12_goesOn_32 : decode cX12_goesOn 32 = .ok (.getfield 286, 3) := by decide +kernel
theorem dX12_goesOn_35 : decode cX12_goesOn 35 = .ok (.bipush 42, 2) := by decide +kernel
theorem dX12_goesOn_37 : decode cX12_goesOn 37 = .ok (.if_icmp .eq 12, 3) := by decide +kernel
theorem dX12_goesOn_40 : decode cX12_goesOn 40 = .ok (.aload_n 0, 1) := by decide +kernel
theorem dX12_goesOn_41 : decode cX12_goesOn 41 = .ok (.getfield 286, 3) := by decide +kernel
theorem dX12_goesOn_44 : decode cX12_goesOn 44 = .ok (.bipush 47, 2) := by decide +kernel
theorem dX12_goesOn_46 : decode cX12_goesOn 46 = .ok (.if_icmp .ne 19, 3) := by decide +kernel
theorem dX12_goesOn_49 : decode cX12_goesOn 49 = .ok (.aload_n 0, 1) := by decide +kernel
theorem dX12_goesOn_50 : decode cX12_goesOn 50 = .ok (.aload_n 0, 1) := by decide +kernel
theorem dX12_goesOn_51 : decode cX12_goesOn 51 = .ok (.getfield 286, 3) := by decide +kernel
theorem dX12_goesOn_54 : decode cX12_goesOn 54 = .ok (.invokevirtual 357, 3) := by decide +kernel
theorem dX12_goesOn_57 : decode cX12_goesOn 57 = .ok (.aload_n 0, 1) := by decide +kernel
theorem dX12_goesOn_58 : decode cX12_goesOn 58 = .ok (.iconst 1, 1) := by decide +kernel
theorem dX12_goesOn_59 : decode cX12_goesOn 59 = .ok (.putfield 334, 3) := by decide +kernel
theorem dX12_goesOn_62 : decode cX12_goesOn 62 = .ok (.goto 289, 3) := by decide +kernel
theorem dX12_goesOn_65 : decode cX12_goesOn 65 = .ok (.iload_n 1, 1) := by decide +kernel
theorem dX12_goesOn_66 : decode cX12_goesOn 66 = .ok (.bipush 6, 2) := by decide +kernel
theorem dX12_goesOn_68 : decode cX12_goesOn 68 = .ok (.if_icmp .ne 48, 3) := by decide +kernel
theorem dX12_goesOn_71 : decode cX12_goesOn 71 = .ok (.aload_n 0, 1) := by decide +kernel
theorem dX12_goesOn_72 : decode cX12_goesOn 72 = .ok (.bipush 41, 2) := by decide +kernel
theorem dX12_goesOn_74 : decode cX12_goesOn 74 = .ok (.invokevirtual 351, 3) := by decide +kernel
theorem dX12_goesOn_77 : decode cX12_goesOn 77 = .ok (.ifCond .eq 39, 3) := by decide +kernel
theorem dX12_goesOn_80 : decode cX12_goesOn 80 = .ok (.aload_n 0, 1) := by decide +kernel
theorem dX12_goesOn_81 : decode cX12_goesOn 81 = .ok (.iconst 3, 1) := by decide +kernel
theorem dX12_goesOn_82 : decode cX12_goesOn 82 = .ok (.invokevirtual 325, 3) := by decide +kernel
theorem dX12_goesOn_85 : decode cX12_goesOn 85 = .ok (.aload_n 0, 1) := by decide +kernel
theorem dX12_goesOn_86 : decode cX12_goesOn 86 = .ok (.dup, 1) := by decide +kernel
theorem dX12_goesOn_87 : decode cX12_goesOn 87 = .ok (.getfield 299, 3) := by decide +kernel
theorem dX12_goesOn_90 : decode cX12_goesOn 90 = .ok (.iconst 1, 1) := by decide +kernel
theorem dX12_goesOn_91 : decode cX12_goesOn 91 = .ok (.isub, 1) := by decide +kernel
theorem dX12_goesOn_92 : decode cX12_goesOn 92 = .ok (.putfield 299, 3) := by decide +kernel
theorem dX12_goesOn_95 : decode cX12_goesOn 95 = .ok (.aload_n 0, 1) := by decide +kernel
theorem dX12_goesOn_96 : decode cX12_goesOn 96 = .ok (.dup, 1) := by decide +kernel
theorem dX12_goesOn_97 : decode cX12_goesOn 97 = .ok (.getfield 302, 3) := by decide +kernel
theorem dX12_goesOn_100 : decode cX12_goesOn 100 = .ok (.iconst 1, 1) := by decide +kernel
theorem dX12_goesOn_101 : decode cX12_goesOn 101 = .ok (.isub, 1) := by decide +kernel
theorem dX12_goesOn_102 : decode cX12_goesOn 102 = .ok (.putfield 302, 3) := by decide +kernel
theorem dX12_goesOn_105 : decode cX12_goesOn 105 = .ok (.aload_n 0, 1) := by decide +kernel
theorem dX12_goesOn_106 : decode cX12_goesOn 106 = .ok (.invokevirtual 311, 3) := by decide +kernel
theorem dX12_goesOn_109 : decode cX12_goesOn 109 = .ok (.aload_n 0, 1) := by decide +kernel
theorem dX12_goesOn_110 : decode cX12_goesOn 110 = .ok (.invokevirtual 341, 3) := by decide +kernel
theorem dX12_goesOn_113 : decode cX12_goesOn 113 = .ok (.goto 238, 3) := by decide +kernel
theorem dX12_goesOn_116 : decode cX12_goesOn 116 = .ok (.iload_n 1, 1) := by decide +kernel
theorem dX12_goesOn_117 : decode cX12_goesOn 117 = .ok (.bipush 8, 2) := by decide +kernel
theorem dX12_goesOn_119 : decode cX12_goesOn 119 = .ok (.if_icmp .ne 29, 3) := by decide +kernel
theorem dX12_goesOn_122 : decode cX12_goesOn 122 = .ok (.aload_n 0, 1) := by decide +kernel
theorem dX12_goesOn_123 : decode cX12_goesOn 123 = .ok (.bipush 19, 2) := by decide +kernel
theorem dX12_goesOn_125 : decode cX12_goesOn 125 = .ok (.invokevirtual 328, 3) := by decide +kernel
theorem dX12_goesOn_128 : decode cX12_goesOn 128 = .ok (.ifCond .eq 20, 3) := by decide +kernel
theorem dX12_goesOn_131 : decode cX12_goesOn 131 = .ok (.aload_n 0, 1) := by decide +kernel
theorem dX12_goesOn_132 : decode cX12_goesOn 132 = .ok (.iconst 3, 1) := by decide +kernel
theorem dX12_goesOn_133 : decode cX12_goesOn 133 = .ok (.invokevirtual 325, 3) := by decide +kernel
theorem dX12_goesOn_136 : decode cX12_goesOn 136 = .ok (.aload_n 0, 1) := by decide +kernel
theorem dX12_goesOn_137 : decode cX12_goesOn 137 = .ok (.bipush 9, 2) := by decide +kernel
theorem dX12_goesOn_139 : decode cX12_goesOn 139 = .ok (.sipush 404, 3) := by decide +kernel
theorem dX12_goesOn_142 : decode cX12_goesOn 142 = .ok (.invokevirtual 360, 3) := by decide +kernel
theorem dX12_goesOn_145 : decode cX12_goesOn 145 = .ok (.goto 206, 3) := by decide +kernel
theorem dX12_goesOn_148 : decode cX12_goesOn 148 = .ok (.iload_n 1, 1) := by decide +kernel
theorem dX12_goesOn_149 : decode cX12_goesOn 149 = .ok (.bipush 9, 2) := by decide +kernel
theorem dX12_goesOn_151 : decode cX12_goesOn 151 = .ok (.if_icmp .ne 66, 3) := by decide +kernel
theorem dX12_goesOn_154 : decode cX12_goesOn 154 = .ok (.aload_n 0, 1) := by decide +kernel
theorem dX12_goesOn_155 : decode cX12_goesOn 155 = .ok (.bipush 20, 2) := by decide +kernel
theorem dX12_goesOn_157 : decode cX12_goesOn 157 = .ok (.invokevirtual 328, 3) := by decide +kernel
theorem dX12_goesOn_160 : decode cX12_goesOn 160 = .ok (.ifCond .eq 57, 3) := by decide +kernel
theorem dX12_goesOn_163 : decode cX12_goesOn 163 = .ok (.aload_n 0, 1) := by decide +kernel
theorem dX12_goesOn_164 : decode cX12_goesOn 164 = .ok (.iconst 3, 1) := by decide +kernel
theorem dX12_goesOn_165 : decode cX12_goesOn 165 = .ok (.invokevirtual 325, 3) := by decide +kernel
theorem dX12_goesOn_168 : decode cX12_goesOn 168 = .ok (.aload_n 0, 1) := by decide +kernel
theorem dX12_goesOn_169 : decode cX12_goesOn 169 = .ok (.getfield 84, 3) := by decide +kernel
theorem dX12_goesOn_172 : decode cX12_goesOn 172 = .ok (.aload_n 0, 1) := by decide +kernel
theorem dX12_goesOn_173 : decode cX12_goesOn 173 = .ok (.getfield 63, 3) := by decide +kernel
theorem dX12_goesOn_176 : decode cX12_goesOn 176 = .ok (.aload_n 0, 1) := by decide +kernel
theorem dX12_goesOn_177 : decode cX12_goesOn 177 = .ok (.getfield 299, 3) := by decide +kernel
theorem dX12_goesOn_180 : decode cX12_goesOn 180 = .ok (.iaload, 1) := by decide +kernel
theorem dX12_goesOn_181 : decode cX12_goesOn 181 = .ok (.aload_n 0, 1) := by decide +kernel
theorem dX12_goesOn_182 : decode cX12_goesOn 182 = .ok (.getfield 296, 3) := by decide +kernel
theorem dX12_goesOn_185 : decode cX12_goesOn 185 = .ok (.iastore, 1) := by decide +kernel
theorem dX12_goesOn_186 : decode cX12_goesOn 186 = .ok (.aload_n 0, 1) := by decide +kernel
theorem dX12_goesOn_187 : decode cX12_goesOn 187 = .ok (.dup, 1) := by decide +kernel
theorem dX12_goesOn_188 : decode cX12_goesOn 188 = .ok (.getfield 299, 3) := by decide +kernel
theorem dX12_goesOn_191 : decode cX12_goesOn 191 = .ok (.iconst 1, 1) := by decide +kernel
theorem dX12_goesOn_192 : decode cX12_goesOn 192 = .ok (.isub, 1) := by decide +kernel
theorem dX12_goesOn_193 : decode cX12_goesOn 193 = .ok (.putfield 299, 3) := by decide +kernel
theorem dX12_goesOn_196 : decode cX12_goesOn 196 = .ok (.aload_n 0, 1) := by decide +kernel
theorem dX12_goesOn_197 : decode cX12_goesOn 197 = .ok (.dup, 1) := by decide +kernel
theorem dX12_goesOn_198 : decode cX12_goesOn 198 = .ok (.getfield 302, 3) := by decide +kernel
theorem dX12_goesOn_201 : decode cX12_goesOn 201 = .ok (.iconst 1, 1) := by decide +kernel
theorem dX12_goesOn_202 : decode cX12_goesOn 202 = .ok (.isub, 1) := by decide +kernel
theorem dX12_goesOn_203 : decode cX12_goesOn 203 = .ok (.putfield 302, 3) := by decide +kernel
theorem dX12_goesOn_206 : decode cX12_goesOn 206 = .ok (.aload_n 0, 1) := by decide +kernel
theorem dX12_goesOn_207 : decode cX12_goesOn 207 = .ok (.invokevirtual 311, 3) := by decide +kernel
theorem dX12_goesOn_210 : decode cX12_goesOn 210 = .ok (.aload_n 0, 1) := by decide +kernel
theorem dX12_goesOn_211 : decode cX12_goesOn 211 = .ok (.invokevirtual 341, 3) := by decide +kernel
theorem dX12_goesOn_214 : decode cX12_goesOn 214 = .ok (.goto 137, 3) := by decide +kernel
theorem dX12_goesOn_217 : decode cX12_goesOn 217 = .ok (.iload_n 1, 1) := by decide +kernel
theorem dX12_goesOn_218 : decode cX12_goesOn 218 = .ok (.iconst 4, 1) := by decide +kernel
theorem dX12_goesOn_219 : decode cX12_goesOn 219 = .ok (.if_icmp .ne 63, 3) := by decide +kernel
theorem dX12_goesOn_222 : decode cX12_goesOn 222 = .ok (.aload_n 0, 1) := by decide +kernel
theorem dX12_goesOn_223 : decode cX12_goesOn 223 = .ok (.getfield 274, 3) := by decide +kernel
theorem dX12_goesOn_226 : decode cX12_goesOn 226 = .ok (.iconst 3, 1) := by decide +kernel
theorem dX12_goesOn_227 : decode cX12_goesOn 227 = .ok (.if_icmp .ne 55, 3) := by decide +kernel
theorem dX12_goesOn_230 : decode cX12_goesOn 230 = .ok (.aload_n 0, 1) := by decide +kernel
theorem dX12_goesOn_231 : decode cX12_goesOn 231 = .ok (.getfield 286, 3) := by decide +kernel
theorem dX12_goesOn_234 : decode cX12_goesOn 234 = .ok (.invokestatic 363, 3) := by decide +kernel
theorem dX12_goesOn_237 : decode cX12_goesOn 237 = .ok (.ifCond .eq 45, 3) := by decide +kernel
theorem dX12_goesOn_240 : decode cX12_goesOn 240 = .ok (.aload_n 0, 1) := by decide +kernel
theorem dX12_goesOn_241 : decode cX12_goesOn 241 = .ok (.iconst 3, 1) := by decide +kernel
theorem dX12_goesOn_242 : decode cX12_goesOn 242 = .ok (.invokevirtual 325, 3) := by decide +kernel
theorem dX12_goesOn_245 : decode cX12_goesOn 245 = .ok (.aload_n 0, 1) := by decide +kernel
theorem dX12_goesOn_246 : decode cX12_goesOn 246 = .ok (.getfield 54, 3) := by decide +kernel
theorem dX12_goesOn_249 : decode cX12_goesOn 249 = .ok (.aload_n 0, 1) := by decide +kernel
theorem dX12_goesOn_250 : decode cX12_goesOn 250 = .ok (.getfield 299, 3) := by decide +kernel
theorem dX12_goesOn_253 : decode cX12_goesOn 253 = .ok (.aload_n 0, 1) := by decide +kernel
theorem dX12_goesOn_254 : decode cX12_goesOn 254 = .ok (.getfield 286, 3) := by decide +kernel
theorem dX12_goesOn_257 : decode cX12_goesOn 257 = .ok (.iastore, 1) := by decide +kernel
theorem dX12_goesOn_258 : decode cX12_goesOn 258 = .ok (.aload_n 0, 1) := by decide +kernel
theorem dX12_goesOn_259 : decode cX12_goesOn 259 = .ok (.getfield 51, 3) := by decide +kernel
theorem dX12_goesOn_262 : decode cX12_goesOn 262 = .ok (.aload_n 0, 1) := by decide +kernel
theorem dX12_goesOn_263 : decode cX12_goesOn 263 = .ok (.getfield 299, 3) := by decide +kernel
theorem dX12_goesOn_266 : decode cX12_goesOn 266 = .ok (.iconst 1, 1) := by decide +kernel
theorem dX12_goesOn_267 : decode cX12_goesOn 267 = .ok (.isub, 1) := by decide +kernel
theorem dX12_goesOn_268 : decode cX12_goesOn 268 = .ok (.iconst 5, 1) := by decide +kernel
theorem dX12_goesOn_269 : decode cX12_goesOn 269 = .ok (.iastore, 1) := by decide +kernel
theorem dX12_goesOn_270 : decode cX12_goesOn 270 = .ok (.aload_n 0, 1) := by decide +kernel
theorem dX12_goesOn_271 : decode cX12_goesOn 271 = .ok (.invokevirtual 311, 3) := by decide +kernel
theorem dX12_goesOn_274 : decode cX12_goesOn 274 = .ok (.aload_n 0, 1) := by decide +kernel
theorem dX12_goesOn_275 : decode cX12_goesOn 275 = .ok (.iconst 1, 1) := by decide +kernel
theorem dX12_goesOn_276 : decode cX12_goesOn 276 = .ok (.putfield 334, 3) := by decide +kernel
theorem dX12_goesOn_279 : decode cX12_goesOn 279 = .ok (.goto 72, 3) := by decide +kernel
theorem dX12_goesOn_282 : decode cX12_goesOn 282 = .ok (.iload_n 1, 1) := by decide +kernel
theorem dX12_goesOn_283 : decode cX12_goesOn 283 = .ok (.iconst 5, 1) := by decide +kernel
theorem dX12_goesOn_284 : decode cX12_goesOn 284 = .ok (.if_icmp .ne 41, 3) := by decide +kernel
theorem dX12_goesOn_287 : decode cX12_goesOn 287 = .ok (.aload_n 0, 1) := by decide +kernel
theorem dX12_goesOn_288 : decode cX12_goesOn 288 = .ok (.iconst 3, 1) := by decide +kernel
theorem dX12_goesOn_289 : decode cX12_goesOn 289 = .ok (.invokevirtual 325, 3) := by decide +kernel
theorem dX12_goesOn_292 : decode cX12_goesOn 292 = .ok (.aload_n 0, 1) := by decide +kernel
theorem dX12_goesOn_293 : decode cX12_goesOn 293 = .ok (.getfield 54, 3) := by decide +kernel
theorem dX12_goesOn_296 : decode cX12_goesOn 296 = .ok (.aload_n 0, 1) := by decide +kernel
theorem dX12_goesOn_297 : decode cX12_goesOn 297 = .ok (.getfield 299, 3) := by decide +kernel
theorem dX12_goesOn_300 : decode cX12_goesOn 300 = .ok (.iaload, 1) := by decide +kernel
theorem dX12_goesOn_301 : decode cX12_goesOn 301 = .ok (.istore_n 2, 1) := by decide +kernel
theorem dX12_goesOn_302 : decode cX12_goesOn 302 = .ok (.aload_n 0, 1) := by decide +kernel
theorem dX12_goesOn_303 : decode cX12_goesOn 303 = .ok (.dup, 1) := by decide +kernel
theorem dX12_goesOn_304 : decode cX12_goesOn 304 = .ok (.getfield 299, 3) := by decide +kernel
theorem dX12_goesOn_307 : decode cX12_goesOn 307 = .ok (.iconst 1, 1) := by decide +kernel
theorem dX12_goesOn_308 : decode cX12_goesOn 308 = .ok (.isub, 1) := by decide +kernel
theorem dX12_goesOn_309 : decode cX12_goesOn 309 = .ok (.putfield 299, 3) := by decide +kernel
theorem dX12_goesOn_312 : decode cX12_goesOn 312 = .ok (.aload_n 0, 1) := by decide +kernel
theorem dX12_goesOn_313 : decode cX12_goesOn 313 = .ok (.iload_n 2, 1) := by decide +kernel
theorem dX12_goesOn_314 : decode cX12_goesOn 314 = .ok (.iconst 0, 1) := by decide +kernel
theorem dX12_goesOn_315 : decode cX12_goesOn 315 = .ok (.invokevirtual 321, 3) := by decide +kernel
theorem dX12_goesOn_318 : decode cX12_goesOn 318 = .ok (.aload_n 0, 1) := by decide +kernel
theorem dX12_goesOn_319 : decode cX12_goesOn 319 = .ok (.invokevirtual 366, 3) := by decide +kernel
theorem dX12_goesOn_322 : decode cX12_goesOn 322 = .ok (.goto 29, 3) := by decide +kernel
theorem dX12_goesOn_325 : decode cX12_goesOn 325 = .ok (.iload_n 1, 1) := by decide +kernel
theorem dX12_goesOn_326 : decode cX12_goesOn 326 = .ok (.iconst 1, 1) := by decide +kernel
theorem dX12_goesOn_327 : decode cX12_goesOn 327 = .ok (.if_icmp .ne 19, 3) := by decide +kernel
theorem dX12_goesOn_330 : decode cX12_goesOn 330 = .ok (.aload_n 0, 1) := by decide +kernel
theorem dX12_goesOn_331 : decode cX12_goesOn 331 = .ok (.bipush 59, 2) := by decide +kernel
theorem dX12_goesOn_333 : decode cX12_goesOn 333 = .ok (.invokevirtual 351, 3) := by decide +kernel
theorem dX12_goesOn_336 : decode cX12_goesOn 336 = .ok (.ifCond .eq 10, 3) := by decide +kernel
theorem dX12_goesOn_339 : decode cX12_goesOn 339 = .ok (.aload_n 0, 1) := by decide +kernel
theorem dX12_goesOn_340 : decode cX12_goesOn 340 = .ok (.invokevirtual 369, 3) := by decide +kernel
theorem dX12_goesOn_343 : decode cX12_goesOn 343 = .ok (.goto 8, 3) := by decide +kernel
theorem dX12_goesOn_346 : decode cX12_goesOn 346 = .ok (.aload_n 0, 1) := by decide +kernel
theorem dX12_goesOn_347 : decode cX12_goesOn 347 = .ok (.iconst 1, 1) := by decide +kernel
theorem dX12_goesOn_348 : decode cX12_goesOn 348 = .ok (.invokevirtual 305, 3) := by decide +kernel
theorem dX12_goesOn_351 : decode cX12_goesOn 351 = .ok (.return_, 1) := by decide +kernel
theorem dX12_asksOn_0 : decode cX12_asksOn 0 = .ok (.aload_n 0, 1) := by decide +kernel
theorem dX12_asksOn_1 : decode cX12_asksOn 1 = .ok (.bipush 14, 2) := by decide +kernel
theorem dX12_asksOn_3 : decode cX12_asksOn 3 = .ok (.invokevirtual 328, 3) := by decide +kernel
theorem dX12_asksOn_6 : decode cX12_asksOn 6 = .ok (.ifCond .ne 12, 3) := by decide +kernel
theorem dX12_asksOn_9 : decode cX12_asksOn 9 = .ok (.aload_n 0, 1) := by decide +kernel
theorem dX12_asksOn_10 : decode cX12_asksOn 10 = .ok (.bipush 15, 2) := by decide +kernel
theorem dX12_asksOn_12 : decode cX12_asksOn 12 = .ok (.invokevirtual 328, 3) := by decide +kernel
theorem dX12_asksOn_15 : decode cX12_asksOn 15 = .ok (.ifCond .eq 33, 3) := by decide +kernel
theorem dX12_asksOn_18 : decode cX12_asksOn 18 = .ok (.aload_n 0, 1) := by decide +kernel
theorem dX12_asksOn_19 : decode cX12_asksOn 19 = .ok (.aload_n 0, 1) := by decide +kernel
theorem dX12_asksOn_20 : decode cX12_asksOn 20 = .ok (.bipush 14, 2) := by decide +kernel
theorem dX12_asksOn_22 : decode cX12_asksOn 22 = .ok (.invokevirtual 328, 3) := by decide +kernel
theorem dX12_asksOn_25 : decode cX12_asksOn 25 = .ok (.ifCond .eq 9, 3) := by decide +kernel
theorem dX12_asksOn_28 : decode cX12_asksOn 28 = .ok (.sipush 407, 3) := by decide +kernel
theorem dX12_asksOn_31 : decode cX12_asksOn 31 = .ok (.goto 6, 3) := by decide +kernel
theorem dX12_asksOn_34 : decode cX12_asksOn 34 = .ok (.sipush 406, 3) := by decide +kernel
theorem dX12_asksOn_37 : decode cX12_asksOn 37 = .ok (.invokevirtual 357, 3) := by decide +kernel
theorem dX12_asksOn_40 : decode cX12_asksOn 40 = .ok (.aload_n 0, 1) := by decide +kernel
theorem dX12_asksOn_41 : decode cX12_asksOn 41 = .ok (.iconst 0, 1) := by decide +kernel
theorem dX12_asksOn_42 : decode cX12_asksOn 42 = .ok (.putfield 334, 3) := by decide +kernel
theorem dX12_asksOn_45 : decode cX12_asksOn 45 = .ok (.goto 42, 3) := by decide +kernel
theorem dX12_asksOn_48 : decode cX12_asksOn 48 = .ok (.aload_n 0, 1) := by decide +kernel
theorem dX12_asksOn_49 : decode cX12_asksOn 49 = .ok (.invokevirtual 354, 3) := by decide +kernel
theorem dX12_asksOn_52 : decode cX12_asksOn 52 = .ok (.iconst 2, 1) := by decide +kernel
theorem dX12_asksOn_53 : decode cX12_asksOn 53 = .ok (.if_icmp .ne 29, 3) := by decide +kernel
theorem dX12_asksOn_56 : decode cX12_asksOn 56 = .ok (.aload_n 0, 1) := by decide +kernel
theorem dX12_asksOn_57 : decode cX12_asksOn 57 = .ok (.bipush 18, 2) := by decide +kernel
theorem dX12_asksOn_59 : decode cX12_asksOn 59 = .ok (.invokevirtual 328, 3) := by decide +kernel
theorem dX12_asksOn_62 : decode cX12_asksOn 62 = .ok (.ifCond .eq 20, 3) := by decide +kernel
theorem dX12_asksOn_65 : decode cX12_asksOn 65 = .ok (.aload_n 0, 1) := by decide +kernel
theorem dX12_asksOn_66 : decode cX12_asksOn 66 = .ok (.iconst 1, 1) := by decide +kernel
theorem dX12_asksOn_67 : decode cX12_asksOn 67 = .ok (.invokevirtual 325, 3) := by decide +kernel
theorem dX12_asksOn_70 : decode cX12_asksOn 70 = .ok (.aload_n 0, 1) := by decide +kernel
theorem dX12_asksOn_71 : decode cX12_asksOn 71 = .ok (.bipush 8, 2) := by decide +kernel
theorem dX12_asksOn_73 : decode cX12_asksOn 73 = .ok (.sipush 403, 3) := by decide +kernel
theorem dX12_asksOn_76 : decode cX12_asksOn 76 = .ok (.invokevirtual 360, 3) := by decide +kernel
theorem dX12_asksOn_79 : decode cX12_asksOn 79 = .ok (.goto 8, 3) := by decide +kernel
theorem dX12_asksOn_82 : decode cX12_asksOn 82 = .ok (.aload_n 0, 1) := by decide +kernel
theorem dX12_asksOn_83 : decode cX12_asksOn 83 = .ok (.iconst 1, 1) := by decide +kernel
theorem dX12_asksOn_84 : decode cX12_asksOn 84 = .ok (.invokevirtual 305, 3) := by decide +kernel
theorem dX12_asksOn_87 : decode cX12_asksOn 87 = .ok (.return_, 1) := by decide +kernel
theorem dX12_clauseIsOver_0 : decode cX12_clauseIsOver 0 = .ok (.aload_n 0, 1) := by decide +kernel
theorem dX12_clauseIsOver_1 : decode cX12_clauseIsOver 1 = .ok (.iconst 1, 1) := by decide +kernel
theorem dX12_clauseIsOver_2 : decode cX12_clauseIsOver 2 = .ok (.invokevirtual 325, 3) := by decide +kernel
theorem dX12_clauseIsOver_5 : decode cX12_clauseIsOver 5 = .ok (.aload_n 0, 1) := by decide +kernel
theorem dX12_clauseIsOver_6 : decode cX12_clauseIsOver 6 = .ok (.iconst 0, 1) := by decide +kernel
theorem dX12_clauseIsOver_7 : decode cX12_clauseIsOver 7 = .ok (.putfield 299, 3) := by decide +kernel
theorem dX12_clauseIsOver_10 : decode cX12_clauseIsOver 10 = .ok (.aload_n 0, 1) := by decide +kernel
theorem dX12_clauseIsOver_11 : decode cX12_clauseIsOver 11 = .ok (.sipush 408, 3) := by decide +kernel
theorem dX12_clauseIsOver_14 : decode cX12_clauseIsOver 14 = .ok (.iconst 0, 1) := by decide +kernel
theorem dX12_clauseIsOver_15 : decode cX12_clauseIsOver 15 = .ok (.invokevirtual 321, 3) := by decide +kernel
theorem dX12_clauseIsOver_18 : decode cX12_clauseIsOver 18 = .ok (.aload_n 0, 1) := by decide +kernel
theorem dX12_clauseIsOver_19 : decode cX12_clauseIsOver 19 = .ok (.dup, 1) := by decide +kernel
theorem dX12_clauseIsOver_20 : decode cX12_clauseIsOver 20 = .ok (.getfield 372, 3) := by decide +kernel
theorem dX12_clauseIsOver_23 : decode cX12_clauseIsOver 23 = .ok (.iconst 1, 1) := by decide +kernel
theorem dX12_clauseIsOver_24 : decode cX12_clauseIsOver 24 = .ok (.iadd, 1) := by decide +kernel
theorem dX12_clauseIsOver_25 : decode cX12_clauseIsOver 25 = .ok (.putfield 372, 3) := by decide +kernel
theorem dX12_clauseIsOver_28 : decode cX12_clauseIsOver 28 = .ok (.aload_n 0, 1) := by decide +kernel
theorem dX12_clauseIsOver_29 : decode cX12_clauseIsOver 29 = .ok (.invokevirtual 311, 3) := by decide +kernel
theorem dX12_clauseIsOver_32 : decode cX12_clauseIsOver 32 = .ok (.aload_n 0, 1) := by decide +kernel
theorem dX12_clauseIsOver_33 : decode cX12_clauseIsOver 33 = .ok (.iconst 4, 1) := by decide +kernel
theorem dX12_clauseIsOver_34 : decode cX12_clauseIsOver 34 = .ok (.putfield 334, 3) := by decide +kernel
theorem dX12_clauseIsOver_37 : decode cX12_clauseIsOver 37 = .ok (.return_, 1) := by decide +kernel
theorem dX12_number_0 : decode cX12_number 0 = .ok (.aload_n 0, 1) := by decide +kernel
theorem dX12_number_1 : decode cX12_number 1 = .ok (.getfield 290, 3) := by decide +kernel
theorem dX12_number_4 : decode cX12_number 4 = .ok (.ifCond .gt 11, 3) := by decide +kernel
theorem dX12_number_7 : decode cX12_number 7 = .ok (.aload_n 0, 1) := by decide +kernel
theorem dX12_number_8 : decode cX12_number 8 = .ok (.getfield 274, 3) := by decide +kernel
theorem dX12_number_11 : decode cX12_number 11 = .ok (.iconst 2, 1) := by decide +kernel
theorem dX12_number_12 : decode cX12_number 12 = .ok (.if_icmp .eq 10, 3) := by decide +kernel
theorem dX12_number_15 : decode cX12_number 15 = .ok (.aload_n 0, 1) := by decide +kernel
theorem dX12_number_16 : decode cX12_number 16 = .ok (.iconst 1, 1) := by decide +kernel
theorem dX12_number_17 : decode cX12_number 17 = .ok (.invokevirtual 305, 3) := by decide +kernel
theorem dX12_number_20 : decode cX12_number 20 = .ok (.iload_n 1, 1) := by decide +kernel
theorem dX12_number_21 : decode cX12_number 21 = .ok (.ireturn, 1) := by decide +kernel
theorem dX12_number_22 : decode cX12_number 22 = .ok (.aload_n 0, 1) := by decide +kernel
theorem dX12_number_23 : decode cX12_number 23 = .ok (.getfield 286, 3) := by decide +kernel
theorem dX12_number_26 : decode cX12_number 26 = .ok (.iload_n 1, 1) := by decide +kernel
theorem dX12_number_27 : decode cX12_number 27 = .ok (.iload_n 2, 1) := by decide +kernel
theorem dX12_number_28 : decode cX12_number 28 = .ok (.invokestatic 173, 3) := by decide +kernel
theorem dX12_number_31 : decode cX12_number 31 = .ok (.ifCond .ne 10, 3) := by decide +kernel
theorem dX12_number_34 : decode cX12_number 34 = .ok (.aload_n 0, 1) := by decide +kernel
theorem dX12_number_35 : decode cX12_number 35 = .ok (.iconst 2, 1) := by decide +kernel
theorem dX12_number_36 : decode cX12_number 36 = .ok (.invokevirtual 305, 3) := by decide +kernel
theorem dX12_number_39 : decode cX12_number 39 = .ok (.iload_n 1, 1) := by decide +kernel
theorem dX12_number_40 : decode cX12_number 40 = .ok (.ireturn, 1) := by decide +kernel
theorem dX12_number_41 : decode cX12_number 41 = .ok (.aload_n 0, 1) := by decide +kernel
theorem dX12_number_42 : decode cX12_number 42 = .ok (.getfield 286, 3) := by decide +kernel
theorem dX12_number_45 : decode cX12_number 45 = .ok (.istore_n 3, 1) := by decide +kernel
theorem dX12_number_46 : decode cX12_number 46 = .ok (.aload_n 0, 1) := by decide +kernel
theorem dX12_number_47 : decode cX12_number 47 = .ok (.invokevirtual 311, 3) := by decide +kernel
theorem dX12_number_50 : decode cX12_number 50 = .ok (.iload_n 3, 1) := by decide +kernel
theorem dX12_number_51 : decode cX12_number 51 = .ok (.ireturn, 1) := by decide +kernel
theorem dX12_wasTold_0 : decode cX12_wasTold 0 = .ok (.iconst 0, 1) := by decide +kernel
theorem dX12_wasTold_1 : decode cX12_wasTold 1 = .ok (.istore_n 2, 1) := by decide +kernel
theorem dX12_wasTold_2 : decode cX12_wasTold 2 = .ok (.iconst 0, 1) := by decide +kernel
theorem dX12_wasTold_3 : decode cX12_wasTold 3 = .ok (.istore_n 3, 1) := by decide +kernel
theorem dX12_wasTold_4 : decode cX12_wasTold 4 = .ok (.iload_n 3, 1) := by decide +kernel
theorem dX12_wasTold_5 : decode cX12_wasTold 5 = .ok (.aload_n 0, 1) := by decide +kernel
theorem dX12_wasTold_6 : decode cX12_wasTold 6 = .ok (.getfield 372, 3) := by decide +kernel
theorem dX12_wasTold_9 : decode cX12_wasTold 9 = .ok (.if_icmp .ge 29, 3) := by decide +kernel
theorem dX12_wasTold_12 : decode cX12_wasTold 12 = .ok (.iload_n 2, 1) := by decide +kernel
theorem dX12_wasTold_13 : decode cX12_wasTold 13 = .ok (.ifCond .ne 13, 3) := by decide +kernel
theorem dX12_wasTold_16 : decode cX12_wasTold 16 = .ok (.aload_n 0, 1) := by decide +kernel
theorem dX12_wasTold_17 : decode cX12_wasTold 17 = .ok (.getfield 66, 3) := by decide +kernel
theorem dX12_wasTold_20 : decode cX12_wasTold 20 = .ok (.iload_n 3, 1) := by decide +kernel
theorem dX12_wasTold_21 : decode cX12_wasTold 21 = .ok (.iaload, 1) := by decide +kernel
theorem dX12_wasTold_22 : decode cX12_wasTold 22 = .ok (.iload_n 1, 1) := by decide +kernel
theorem dX12_wasTold_23 : decode cX12_wasTold 23 = .ok (.if_icmp .ne 7, 3) := by decide +kernel
theorem dX12_wasTold_26 : decode cX12_wasTold 26 = .ok (.iconst 1, 1) := by decide +kernel
theorem dX12_wasTold_27 : decode cX12_wasTold 27 = .ok (.goto 4, 3) := by decide +kernel
theorem dX12_wasTold_30 : decode cX12_wasTold 30 = .ok (.iconst 0, 1) := by decide +kernel
theorem dX12_wasTold_31 : decode cX12_wasTold 31 = .ok (.istore_n 2, 1) := by decide +kernel
theorem dX12_wasTold_32 : decode cX12_wasTold 32 = .ok (.iinc 3 1, 3) := by decide +kernel
theorem dX12_wasTold_35 : decode cX12_wasTold 35 = .ok (.goto (-31), 3) := by decide +kernel
theorem dX12_wasTold_38 : decode cX12_wasTold 38 = .ok (.iload_n 2, 1) := by decide +kernel
theorem dX12_wasTold_39 : decode cX12_wasTold 39 = .ok (.ireturn, 1) := by decide +kernel
theorem dX12_numberBehind_0 : decode cX12_numberBehind 0 = .ok (.aload_n 0, 1) := by decide +kernel
theorem dX12_numberBehind_1 : decode cX12_numberBehind 1 = .ok (.getfield 290, 3) := by decide +kernel
theorem dX12_numberBehind_4 : decode cX12_numberBehind 4 = .ok (.ifCond .ne 16, 3) := by decide +kernel
theorem dX12_numberBehind_7 : decode cX12_numberBehind 7 = .ok (.aload_n 0, 1) := by decide +kernel
theorem dX12_numberBehind_8 : decode cX12_numberBehind 8 = .ok (.iload_n 1, 1) := by decide +kernel
theorem dX12_numberBehind_9 : decode cX12_numberBehind 9 = .ok (.invokevirtual 328, 3) := by decide +kernel
theorem dX12_numberBehind_12 : decode cX12_numberBehind 12 = .ok (.ifCond .ne 8, 3) := by decide +kernel
theorem dX12_numberBehind_15 : decode cX12_numberBehind 15 = .ok (.aload_n 0, 1) := by decide +kernel
theorem dX12_numberBehind_16 : decode cX12_numberBehind 16 = .ok (.iconst 1, 1) := by decide +kernel
theorem dX12_numberBehind_17 : decode cX12_numberBehind 17 = .ok (.invokevirtual 305, 3) := by decide +kernel
theorem dX12_numberBehind_20 : decode cX12_numberBehind 20 = .ok (.aload_n 0, 1) := by decide +kernel
theorem dX12_numberBehind_21 : decode cX12_numberBehind 21 = .ok (.getfield 290, 3) := by decide +kernel
theorem dX12_numberBehind_24 : decode cX12_numberBehind 24 = .ok (.ifCond .ne 7, 3) := by decide +kernel
theorem dX12_numberBehind_27 : decode cX12_numberBehind 27 = .ok (.aload_n 0, 1) := by decide +kernel
theorem dX12_numberBehind_28 : decode cX12_numberBehind 28 = .ok (.invokevirtual 311, 3) := by decide +kernel
theorem dX12_numberBehind_31 : decode cX12_numberBehind 31 = .ok (.aload_n 0, 1) := by decide +kernel
theorem dX12_numberBehind_32 : decode cX12_numberBehind 32 = .ok (.iload_n 2, 1) := by decide +kernel
theorem dX12_numberBehind_33 : decode cX12_numberBehind 33 = .ok (.iload_n 3, 1) := by decide +kernel
theorem dX12_numberBehind_34 : decode cX12_numberBehind 34 = .ok (.invokevirtual 375, 3) := by decide +kernel
theorem dX12_numberBehind_37 : decode cX12_numberBehind 37 = .ok (.ireturn, 1) := by decide +kernel
theorem dX12_doing_0 : decode cX12_doing 0 = .ok (.iconst 0, 1) := by decide +kernel
theorem dX12_doing_1 : decode cX12_doing 1 = .ok (.istore_n 1, 1) := by decide +kernel
theorem dX12_doing_2 : decode cX12_doing 2 = .ok (.iconst (-1), 1) := by decide +kernel
theorem dX12_doing_3 : decode cX12_doing 3 = .ok (.istore_n 2, 1) := by decide +kernel
theorem dX12_doing_4 : decode cX12_doing 4 = .ok (.iconst (-1), 1) := by decide +kernel
theorem dX12_doing_5 : decode cX12_doing 5 = .ok (.istore_n 3, 1) := by decide +kernel
theorem dX12_doing_6 : decode cX12_doing 6 = .ok (.aload_n 0, 1) := by decide +kernel
theorem dX12_doing_7 : decode cX12_doing 7 = .ok (.getfield 344, 3) := by decide +kernel
theorem dX12_doing_10 : decode cX12_doing 10 = .ok (.tableswitch 95 5 9 #[34, 95, 95, 54, 66], 34) := by decide +kernel
theorem dX12_doing_44 : decode cX12_doing 44 = .ok (.aload_n 0, 1) := by decide +kernel
theorem dX12_doing_45 : decode cX12_doing 45 = .ok (.iconst 0, 1) := by decide +kernel
theorem dX12_doing_46 : decode cX12_doing 46 = .ok (.iconst 3, 1) := by decide +kernel
theorem dX12_doing_47 : decode cX12_doing 47 = .ok (.invokevirtual 375, 3) := by decide +kernel
theorem dX12_doing_50 : decode cX12_doing 50 = .ok (.istore_n 1, 1) := by decide +kernel
theorem dX12_doing_51 : decode cX12_doing 51 = .ok (.aload_n 0, 1) := by decide +kernel
theorem dX12_doing_52 : decode cX12_doing 52 = .ok (.bipush 11, 2) := by decide +kernel
theorem dX12_doing_54 : decode cX12_doing 54 = .ok (.iconst 1, 1) := by decide +kernel
theorem dX12_doing_55 : decode cX12_doing 55 = .ok (.bipush 99, 2) := by decide +kernel
theorem dX12_doing_57 : decode cX12_doing 57 = .ok (.invokevirtual 378, 3) := by decide +kernel
theorem dX12_doing_60 : decode cX12_doing 60 = .ok (.istore_n 2, 1) := by decide +kernel
theorem dX12_doing_61 : decode cX12_doing 61 = .ok (.goto 51, 3) := by decide +kernel
theorem dX12_doing_64 : decode cX12_doing 64 = .ok (.aload_n 0, 1) := by decide +kernel
theorem dX12_doing_65 : decode cX12_doing 65 = .ok (.iconst 1, 1) := by decide +kernel
theorem dX12_doing_66 : decode cX12_doing 66 = .ok (.sipush 300, 3) := by decide +kernel
theorem dX12_doing_69 : decode cX12_doing 69 = .ok (.invokevirtual 375, 3) := by decide +kernel
theorem dX12_doing_72 : decode cX12_doing 72 = .ok (.istore_n 1, 1) := by decide +kernel
theorem dX12_doing_73 : decode cX12_doing 73 = .ok (.goto 39, 3) := by decide +kernel
theorem dX12_doing_76 : decode cX12_doing 76 = .ok (.aload_n 0, 1) := by decide +kernel
theorem dX12_doing_77 : decode cX12_doing 77 = .ok (.iconst 0, 1) := by decide +kernel
theorem dX12_doing_78 : decode cX12_doing 78 = .ok (.iconst 3, 1) := by decide +kernel
theorem dX12_doing_79 : decode cX12_doing 79 = .ok (.invokevirtual 375, 3) := by decide +kernel
theorem dX12_doing_82 : decode cX12_doing 82 = .ok (.istore_n 1, 1) := by decide +kernel
theorem dX12_doing_83 : decode cX12_doing 83 = .ok (.aload_n 0, 1) := by decide +kernel
theorem dX12_doing_84 : decode cX12_doing 84 = .ok (.bipush 12, 2) := by decide +kernel
theorem dX12_doing_86 : decode cX12_doing 86 = .ok (.iconst 0, 1) := by decide +kernel
theorem dX12_doing_87 : decode cX12_doing 87 = .ok (.iconst 3, 1) := by decide +kernel
theorem dX12_doing_88 : decode cX12_doing 88 = .ok (.invokevirtual 378, 3) := by decide +kernel
theorem dX12_doing_91 : decode cX12_doing 91 = .ok (.istore_n 2, 1) := by decide +kernel
theorem dX12_doing_92 : decode cX12_doing 92 = .ok (.aload_n 0, 1) := by decide +kernel
theorem dX12_doing_93 : decode cX12_doing 93 = .ok (.bipush 13, 2) := by decide +kernel
theorem dX12_doing_95 : decode cX12_doing 95 = .ok (.iconst 0, 1) := by decide +kernel
theorem dX12_doing_96 : decode cX12_doing 96 = .ok (.bipush 60, 2) := by decide +kernel
theorem dX12_doing_98 : decode cX12_doing 98 = .ok (.invokevirtual 378, 3) := by decide +kernel
theorem dX12_doing_101 : decode cX12_doing 101 = .ok (.istore_n 3, 1) := by decide +kernel
theorem dX12_doing_102 : decode cX12_doing 102 = .ok (.goto 10, 3) := by decide +kernel
theorem dX12_doing_105 : decode cX12_doing 105 = .ok (.aload_n 0, 1) := by decide +kernel
theorem dX12_doing_106 : decode cX12_doing 106 = .ok (.iconst 0, 1) := by decide +kernel
theorem dX12_doing_107 : decode cX12_doing 107 = .ok (.iconst 3, 1) := by decide +kernel
theorem dX12_doing_108 : decode cX12_doing 108 = .ok (.invokevirtual 375, 3) := by decide +kernel
theorem dX12_doing_111 : decode cX12_doing 111 = .ok (.istore_n 1, 1) := by decide +kernel
theorem dX12_doing_112 : decode cX12_doing 112 = .ok (.aload_n 0, 1) := by decide +kernel
theorem dX12_doing_113 : decode cX12_doing 113 = .ok (.getfield 72, 3) := by decide +kernel
theorem dX12_doing_116 : decode cX12_doing 116 = .ok (.aload_n 0, 1) := by decide +kernel
theorem dX12_doing_117 : decode cX12_doing 117 = .ok (.getfield 372, 3) := by decide +kernel
theorem dX12_doing_120 : decode cX12_doing 120 = .ok (.iload_n 1, 1) := by decide +kernel
theorem dX12_doing_121 : decode cX12_doing 121 = .ok (.iastore, 1) := by decide +kernel
theorem dX12_doing_122 : decode cX12_doing 122 = .ok (.aload_n 0, 1) := by decide +kernel
theorem dX12_doing_123 : decode cX12_doing 123 = .ok (.getfield 75, 3) := by decide +kernel
theorem dX12_doing_126 : decode cX12_doing 126 = .ok (.aload_n 0, 1) := by decide +kernel
theorem dX12_doing_127 : decode cX12_doing 127 = .ok (.getfield 372, 3) := by decide +kernel
theorem dX12_doing_130 : decode cX12_doing 130 = .ok (.iload_n 2, 1) := by decide +kernel
theorem dX12_doing_131 : decode cX12_doing 131 = .ok (.iastore, 1) := by decide +kernel
theorem dX12_doing_132 : decode cX12_doing 132 = .ok (.aload_n 0, 1) := by decide +kernel
theorem dX12_doing_133 : decode cX12_doing 133 = .ok (.getfield 78, 3) := by decide +kernel
theorem dX12_doing_136 : decode cX12_doing 136 = .ok (.aload_n 0, 1) := by decide +kernel
theorem dX12_doing_137 : decode cX12_doing 137 = .ok (.getfield 372, 3) := by decide +kernel
theorem dX12_doing_140 : decode cX12_doing 140 = .ok (.iload_n 3, 1) := by decide +kernel
theorem dX12_doing_141 : decode cX12_doing 141 = .ok (.iastore, 1) := by decide +kernel
theorem dX12_doing_142 : decode cX12_doing 142 = .ok (.return_, 1) := by decide +kernel
theorem dX12_clause_0 : decode cX12_clause 0 = .ok (.aload_n 0, 1) := by decide +kernel
theorem dX12_clause_1 : decode cX12_clause 1 = .ok (.getfield 274, 3) := by decide +kernel
theorem dX12_clause_4 : decode cX12_clause 4 = .ok (.iconst 1, 1) := by decide +kernel
theorem dX12_clause_5 : decode cX12_clause 5 = .ok (.if_icmp .ne 12, 3) := by decide +kernel
theorem dX12_clause_8 : decode cX12_clause 8 = .ok (.aload_n 0, 1) := by decide +kernel
theorem dX12_clause_9 : decode cX12_clause 9 = .ok (.getfield 286, 3) := by decide +kernel
theorem dX12_clause_12 : decode cX12_clause 12 = .ok (.bipush 10, 2) := by decide +kernel
theorem dX12_clause_14 : decode cX12_clause 14 = .ok (.if_icmp .le 9, 3) := by decide +kernel
theorem dX12_clause_17 : decode cX12_clause 17 = .ok (.aload_n 0, 1) := by decide +kernel
theorem dX12_clause_18 : decode cX12_clause 18 = .ok (.iconst 1, 1) := by decide +kernel
theorem dX12_clause_19 : decode cX12_clause 19 = .ok (.invokevirtual 305, 3) := by decide +kernel
theorem dX12_clause_22 : decode cX12_clause 22 = .ok (.return_, 1) := by decide +kernel
theorem dX12_clause_23 : decode cX12_clause 23 = .ok (.aload_n 0, 1) := by decide +kernel
theorem dX12_clause_24 : decode cX12_clause 24 = .ok (.aload_n 0, 1) := by decide +kernel
theorem dX12_clause_25 : decode cX12_clause 25 = .ok (.getfield 286, 3) := by decide +kernel
theorem dX12_clause_28 : decode cX12_clause 28 = .ok (.putfield 344, 3) := by decide +kernel
theorem dX12_clause_31 : decode cX12_clause 31 = .ok (.aload_n 0, 1) := by decide +kernel
theorem dX12_clause_32 : decode cX12_clause 32 = .ok (.getfield 344, 3) := by decide +kernel
theorem dX12_clause_35 : decode cX12_clause 35 = .ok (.iconst 4, 1) := by decide +kernel
theorem dX12_clause_36 : decode cX12_clause 36 = .ok (.if_icmp .gt 22, 3) := by decide +kernel
theorem dX12_clause_39 : decode cX12_clause 39 = .ok (.aload_n 0, 1) := by decide +kernel
theorem dX12_clause_40 : decode cX12_clause 40 = .ok (.aload_n 0, 1) := by decide +kernel
theorem dX12_clause_41 : decode cX12_clause 41 = .ok (.getfield 344, 3) := by decide +kernel
theorem dX12_clause_44 : decode cX12_clause 44 = .ok (.invokevirtual 382, 3) := by decide +kernel
theorem dX12_clause_47 : decode cX12_clause 47 = .ok (.ifCond .eq 11, 3) := by decide +kernel
theorem dX12_clause_50 : decode cX12_clause 50 = .ok (.aload_n 0, 1) := by decide +kernel
theorem dX12_clause_51 : decode cX12_clause 51 = .ok (.iconst 4, 1) := by decide +kernel
theorem dX12_clause_52 : decode cX12_clause 52 = .ok (.invokevirtual 305, 3) := by decide +kernel
theorem dX12_clause_55 : decode cX12_clause 55 = .ok (.goto 18, 3) := by decide +kernel
theorem dX12_clause_58 : decode cX12_clause 58 = .ok (.aload_n 0, 1) := by decide +kernel
theorem dX12_clause_59 : decode cX12_clause 59 = .ok (.getfield 372, 3) := by decide +kernel
theorem dX12_clause_62 : decode cX12_clause 62 = .ok (.bipush 24, 2) := by decide +kernel
theorem dX12_clause_64 : decode cX12_clause 64 = .ok (.if_icmp .ne 9, 3) := by decide +kernel
theorem dX12_clause_67 : decode cX12_clause 67 = .ok (.aload_n 0, 1) := by decide +kernel
theorem dX12_clause_68 : decode cX12_clause 68 = .ok (.bipush 6, 2) := by decide +kernel
theorem dX12_clause_70 : decode cX12_clause 70 = .ok (.invokevirtual 305, 3) := by decide +kernel
theorem dX12_clause_73 : decode cX12_clause 73 = .ok (.aload_n 0, 1) := by decide +kernel
theorem dX12_clause_74 : decode cX12_clause 74 = .ok (.getfield 290, 3) := by decide +kernel
theorem dX12_clause_77 : decode cX12_clause 77 = .ok (.ifCond .le 4, 3) := by decide +kernel
theorem dX12_clause_80 : decode cX12_clause 80 = .ok (.return_, 1) := by decide +kernel
theorem dX12_clause_81 : decode cX12_clause 81 = .ok (.aload_n 0, 1) := by decide +kernel
theorem dX12_clause_82 : decode cX12_clause 82 = .ok (.getfield 66, 3) := by decide +kernel
theorem dX12_clause_85 : decode cX12_clause 85 = .ok (.aload_n 0, 1) := by decide +kernel
theorem dX12_clause_86 : decode cX12_clause 86 = .ok (.getfield 372, 3) := by decide +kernel
theorem dX12_clause_89 : decode cX12_clause 89 = .ok (.aload_n 0, 1) := by decide +kernel
theorem dX12_clause_90 : decode cX12_clause 90 = .ok (.getfield 344, 3) := by decide +kernel
theorem dX12_clause_93 : decode cX12_clause 93 = .ok (.iastore, 1) := by decide +kernel
theorem dX12_clause_94 : decode cX12_clause 94 = .ok (.aload_n 0, 1) := by decide +kernel
theorem dX12_clause_95 : decode cX12_clause 95 = .ok (.getfield 69, 3) := by decide +kernel
theorem dX12_clause_98 : decode cX12_clause 98 = .ok (.aload_n 0, 1) := by decide +kernel
theorem dX12_clause_99 : decode cX12_clause 99 = .ok (.getfield 372, 3) := by decide +kernel
theorem dX12_clause_102 : decode cX12_clause 102 = .ok (.aload_n 0, 1) := by decide +kernel
theorem dX12_clause_103 : decode cX12_clause 103 = .ok (.getfield 296, 3) := by decide +kernel
theorem dX12_clause_106 : decode cX12_clause 106 = .ok (.iastore, 1) := by decide +kernel
theorem dX12_clause_107 : decode cX12_clause 107 = .ok (.aload_n 0, 1) := by decide +kernel
theorem dX12_clause_108 : decode cX12_clause 108 = .ok (.invokevirtual 311, 3) := by decide +kernel
theorem dX12_clause_111 : decode cX12_clause 111 = .ok (.aload_n 0, 1) := by decide +kernel
theorem dX12_clause_112 : decode cX12_clause 112 = .ok (.getfield 344, 3) := by decide +kernel
theorem dX12_clause_115 : decode cX12_clause 115 = .ok (.iconst 4, 1) := by decide +kernel
theorem dX12_clause_116 : decode cX12_clause 116 = .ok (.if_icmp .gt 14, 3) := by decide +kernel
theorem dX12_clause_119 : decode cX12_clause 119 = .ok (.aload_n 0, 1) := by decide +kernel
theorem dX12_clause_120 : decode cX12_clause 120 = .ok (.iconst 1, 1) := by decide +kernel
theorem dX12_clause_121 : decode cX12_clause 121 = .ok (.invokevirtual 308, 3) := by decide +kernel
theorem dX12_clause_124 : decode cX12_clause 124 = .ok (.aload_n 0, 1) := by decide +kernel
theorem dX12_clause_125 : decode cX12_clause 125 = .ok (.iconst 1, 1) := by decide +kernel
theorem dX12_clause_126 : decode cX12_clause 126 = .ok (.putfield 334, 3) := by decide +kernel
theorem dX12_clause_129 : decode cX12_clause 129 = .ok (.return_, 1) := by decide +kernel
theorem dX12_clause_130 : decode cX12_clause 130 = .ok (.aload_n 0, 1) := by decide +kernel
theorem dX12_clause_131 : decode cX12_clause 131 = .ok (.invokevirtual 385, 3) := by decide +kernel
theorem dX12_clause_134 : decode cX12_clause 134 = .ok (.aload_n 0, 1) := by decide +kernel
theorem dX12_clause_135 : decode cX12_clause 135 = .ok (.getfield 290, 3) := by decide +kernel
theorem dX12_clause_138 : decode cX12_clause 138 = .ok (.ifCond .ne 17, 3) := by decide +kernel
theorem dX12_clause_141 : decode cX12_clause 141 = .ok (.aload_n 0, 1) := by decide +kernel
theorem dX12_clause_142 : decode cX12_clause 142 = .ok (.bipush 59, 2) := by decide +kernel
theorem dX12_clause_144 : decode cX12_clause 144 = .ok (.invokevirtual 351, 3) := by decide +kernel
theorem dX12_clause_147 : decode cX12_clause 147 = .ok (.ifCond .ne 8, 3) := by decide +kernel
theorem dX12_clause_150 : decode cX12_clause 150 = .ok (.aload_n 0, 1) := by decide +kernel
theorem dX12_clause_151 : decode cX12_clause 151 = .ok (.iconst 1, 1) := by decide +kernel
theorem dX12_clause_152 : decode cX12_clause 152 = .ok (.invokevirtual 305, 3) := by decide +kernel
theorem dX12_clause_155 : decode cX12_clause 155 = .ok (.aload_n 0, 1) := by decide +kernel
theorem dX12_clause_156 : decode cX12_clause 156 = .ok (.getfield 290, 3) := by decide +kernel
theorem dX12_clause_159 : decode cX12_clause 159 = .ok (.ifCond .ne 7, 3) := by decide +kernel
theorem dX12_clause_162 : decode cX12_clause 162 = .ok (.aload_n 0, 1) := by decide +kernel
theorem dX12_clause_163 : decode cX12_clause 163 = .ok (.invokevirtual 369, 3) := by decide +kernel
theorem dX12_clause_166 : decode cX12_clause 166 = .ok (.return_, 1) := by decide +kernel
theorem dX12_text_0 : decode cX12_text 0 = .ok (.aload_n 0, 1) := by decide +kernel
theorem dX12_text_1 : decode cX12_text 1 = .ok (.getfield 7, 3) := by decide +kernel
theorem dX12_text_4 : decode cX12_text 4 = .ok (.iconst 1, 1) := by decide +kernel
theorem dX12_text_5 : decode cX12_text 5 = .ok (.iaload, 1) := by decide +kernel
theorem dX12_text_6 : decode cX12_text 6 = .ok (.iconst 4, 1) := by decide +kernel
theorem dX12_text_7 : decode cX12_text 7 = .ok (.if_icmp .ne 10, 3) := by decide +kernel
theorem dX12_text_10 : decode cX12_text 10 = .ok (.aload_n 0, 1) := by decide +kernel
theorem dX12_text_11 : decode cX12_text 11 = .ok (.iconst 1, 1) := by decide +kernel
theorem dX12_text_12 : decode cX12_text 12 = .ok (.iconst (-1), 1) := by decide +kernel
theorem dX12_text_13 : decode cX12_text 13 = .ok (.invokevirtual 177, 3) := by decide +kernel
theorem dX12_text_16 : decode cX12_text 16 = .ok (.ireturn, 1) := by decide +kernel
theorem dX12_text_17 : decode cX12_text 17 = .ok (.aload_n 0, 1) := by decide +kernel
theorem dX12_text_18 : decode cX12_text 18 = .ok (.aload_n 0, 1) := by decide +kernel
theorem dX12_text_19 : decode cX12_text 19 = .ok (.getfield 194, 3) := by decide +kernel
theorem dX12_text_22 : decode cX12_text 22 = .ok (.putfield 268, 3) := by decide +kernel
theorem dX12_text_25 : decode cX12_text 25 = .ok (.aload_n 0, 1) := by decide +kernel
theorem dX12_text_26 : decode cX12_text 26 = .ok (.iconst 0, 1) := by decide +kernel
theorem dX12_text_27 : decode cX12_text 27 = .ok (.putfield 194, 3) := by decide +kernel
theorem dX12_text_30 : decode cX12_text 30 = .ok (.aload_n 0, 1) := by decide +kernel
theorem dX12_text_31 : decode cX12_text 31 = .ok (.iconst 0, 1) := by decide +kernel
theorem dX12_text_32 : decode cX12_text 32 = .ok (.putfield 265, 3) := by decide +kernel
theorem dX12_text_35 : decode cX12_text 35 = .ok (.aload_n 0, 1) := by decide +kernel
theorem dX12_text_36 : decode cX12_text 36 = .ok (.iconst 0, 1) := by decide +kernel
theorem dX12_text_37 : decode cX12_text 37 = .ok (.putfield 290, 3) := by decide +kernel
theorem dX12_text_40 : decode cX12_text 40 = .ok (.aload_n 0, 1) := by decide +kernel
theorem dX12_text_41 : decode cX12_text 41 = .ok (.iconst (-1), 1) := by decide +kernel
theorem dX12_text_42 : decode cX12_text 42 = .ok (.putfield 293, 3) := by decide +kernel
theorem dX12_text_45 : decode cX12_text 45 = .ok (.aload_n 0, 1) := by decide +kernel
theorem dX12_text_46 : decode cX12_text 46 = .ok (.iconst 0, 1) := by decide +kernel
theorem dX12_text_47 : decode cX12_text 47 = .ok (.putfield 302, 3) := by decide +kernel
theorem dX12_text_50 : decode cX12_text 50 = .ok (.aload_n 0, 1) := by decide +kernel
theorem dX12_text_51 : decode cX12_text 51 = .ok (.iconst 0, 1) := by decide +kernel
theorem dX12_text_52 : decode cX12_text 52 = .ok (.putfield 299, 3) := by decide +kernel
theorem dX12_text_55 : decode cX12_text 55 = .ok (.aload_n 0, 1) := by decide +kernel
theorem dX12_text_56 : decode cX12_text 56 = .ok (.iconst 0, 1) := by decide +kernel
theorem dX12_text_57 : decode cX12_text 57 = .ok (.putfield 314, 3) := by decide +kernel
theorem dX12_text_60 : decode cX12_text 60 = .ok (.aload_n 0, 1) := by decide +kernel
theorem dX12_text_61 : decode cX12_text 61 = .ok (.iconst 4, 1) := by decide +kernel
theorem dX12_text_62 : decode cX12_text 62 = .ok (.putfield 334, 3) := by decide +kernel
theorem dX12_text_65 : decode cX12_text 65 = .ok (.aload_n 0, 1) := by decide +kernel
theorem dX12_text_66 : decode cX12_text 66 = .ok (.iconst 0, 1) := by decide +kernel
theorem dX12_text_67 : decode cX12_text 67 = .ok (.putfield 372, 3) := by decide +kernel
theorem dX12_text_70 : decode cX12_text 70 = .ok (.aload_n 0, 1) := by decide +kernel
theorem dX12_text_71 : decode cX12_text 71 = .ok (.iconst 0, 1) := by decide +kernel
theorem dX12_text_72 : decode cX12_text 72 = .ok (.putfield 296, 3) := by decide +kernel
theorem dX12_text_75 : decode cX12_text 75 = .ok (.aload_n 0, 1) := by decide +kernel
theorem dX12_text_76 : decode cX12_text 76 = .ok (.invokevirtual 311, 3) := by decide +kernel
theorem dX12_text_79 : decode cX12_text 79 = .ok (.aload_n 0, 1) := by decide +kernel
theorem dX12_text_80 : decode cX12_text 80 = .ok (.getfield 290, 3) := by decide +kernel
theorem dX12_text_83 : decode cX12_text 83 = .ok (.ifCond .ne 88, 3) := by decide +kernel
theorem dX12_text_86 : decode cX12_text 86 = .ok (.aload_n 0, 1) := by decide +kernel
theorem dX12_text_87 : decode cX12_text 87 = .ok (.getfield 334, 3) := by decide +kernel
theorem dX12_text_90 : decode cX12_text 90 = .ok (.iconst 4, 1) := by decide +kernel
theorem dX12_text_91 : decode cX12_text 91 = .ok (.if_icmp .ne 10, 3) := by decide +kernel
theorem dX12_text_94 : decode cX12_text 94 = .ok (.aload_n 0, 1) := by decide +kernel
theorem dX12_text_95 : decode cX12_text 95 = .ok (.getfield 274, 3) := by decide +kernel
theorem dX12_text_98 : decode cX12_text 98 = .ok (.ifCond .eq 73, 3) := by decide +kernel
theorem dX12_text_101 : decode cX12_text 101 = .ok (.aload_n 0, 1) := by decide +kernel
theorem dX12_text_102 : decode cX12_text 102 = .ok (.getfield 334, 3) := by decide +kernel
theorem dX12_text_105 : decode cX12_text 105 = .ok (.tableswitch 59 0 3 #[31, 38, 45, 52], 31) := by decide +kernel
theorem dX12_text_136 : decode cX12_text 136 = .ok (.aload_n 0, 1) := by decide +kernel
theorem dX12_text_137 : decode cX12_text 137 = .ok (.invokevirtual 388, 3) := by decide +kernel
theorem dX12_text_140 : decode cX12_text 140 = .ok (.goto (-61), 3) := by decide +kernel
theorem dX12_text_143 : decode cX12_text 143 = .ok (.aload_n 0, 1) := by decide +kernel
theorem dX12_text_144 : decode cX12_text 144 = .ok (.invokevirtual 391, 3) := by decide +kernel
theorem dX12_text_147 : decode cX12_text 147 = .ok (.goto (-68), 3) := by decide +kernel
theorem dX12_text_150 : decode cX12_text 150 = .ok (.aload_n 0, 1) := by decide +kernel
theorem dX12_text_151 : decode cX12_text 151 = .ok (.invokevirtual 394, 3) := by decide +kernel
theorem dX12_text_154 : decode cX12_text 154 = .ok (.goto (-75), 3) := by decide +kernel
theorem dX12_text_157 : decode cX12_text 157 = .ok (.aload_n 0, 1) := by decide +kernel
theorem dX12_text_158 : decode cX12_text 158 = .ok (.invokevirtual 397, 3) := by decide +kernel
theorem dX12_text_161 : decode cX12_text 161 = .ok (.goto (-82), 3) := by decide +kernel
theorem dX12_text_164 : decode cX12_text 164 = .ok (.aload_n 0, 1) := by decide +kernel
theorem dX12_text_165 : decode cX12_text 165 = .ok (.invokevirtual 400, 3) := by decide +kernel
theorem dX12_text_168 : decode cX12_text 168 = .ok (.goto (-89), 3) := by decide +kernel
theorem dX12_text_171 : decode cX12_text 171 = .ok (.aload_n 0, 1) := by decide +kernel
theorem dX12_text_172 : decode cX12_text 172 = .ok (.aload_n 0, 1) := by decide +kernel
theorem dX12_text_173 : decode cX12_text 173 = .ok (.getfield 290, 3) := by decide +kernel
theorem dX12_text_176 : decode cX12_text 176 = .ok (.putfield 20, 3) := by decide +kernel
theorem dX12_text_179 : decode cX12_text 179 = .ok (.aload_n 0, 1) := by decide +kernel
theorem dX12_text_180 : decode cX12_text 180 = .ok (.aload_n 0, 1) := by decide +kernel
theorem dX12_text_181 : decode cX12_text 181 = .ok (.getfield 293, 3) := by decide +kernel
theorem dX12_text_184 : decode cX12_text 184 = .ok (.putfield 24, 3) := by decide +kernel
theorem dX12_text_187 : decode cX12_text 187 = .ok (.aload_n 0, 1) := by decide +kernel
theorem dX12_text_188 : decode cX12_text 188 = .ok (.getfield 290, 3) := by decide +kernel
theorem dX12_text_191 : decode cX12_text 191 = .ok (.ifCond .le 5, 3) := by decide +kernel
theorem dX12_text_194 : decode cX12_text 194 = .ok (.iconst (-1), 1) := by decide +kernel
theorem dX12_text_195 : decode cX12_text 195 = .ok (.ireturn, 1) := by decide +kernel
theorem dX12_text_196 : decode cX12_text 196 = .ok (.aload_n 0, 1) := by decide +kernel
theorem dX12_text_197 : decode cX12_text 197 = .ok (.getfield 7, 3) := by decide +kernel
theorem dX12_text_200 : decode cX12_text 200 = .ok (.iconst 1, 1) := by decide +kernel
theorem dX12_text_201 : decode cX12_text 201 = .ok (.iaload, 1) := by decide +kernel
theorem dX12_text_202 : decode cX12_text 202 = .ok (.istore_n 1, 1) := by decide +kernel
theorem dX12_text_203 : decode cX12_text 203 = .ok (.aload_n 0, 1) := by decide +kernel
theorem dX12_text_204 : decode cX12_text 204 = .ok (.getfield 27, 3) := by decide +kernel
theorem dX12_text_207 : decode cX12_text 207 = .ok (.iload_n 1, 1) := by decide +kernel
theorem dX12_text_208 : decode cX12_text 208 = .ok (.aload_n 0, 1) := by decide +kernel
theorem dX12_text_209 : decode cX12_text 209 = .ok (.getfield 372, 3) := by decide +kernel
theorem dX12_text_212 : decode cX12_text 212 = .ok (.iastore, 1) := by decide +kernel
theorem dX12_text_213 : decode cX12_text 213 = .ok (.iconst 0, 1) := by decide +kernel
theorem dX12_text_214 : decode cX12_text 214 = .ok (.istore_n 2, 1) := by decide +kernel
theorem dX12_text_215 : decode cX12_text 215 = .ok (.iload_n 2, 1) := by decide +kernel
theorem dX12_text_216 : decode cX12_text 216 = .ok (.aload_n 0, 1) := by decide +kernel
theorem dX12_text_217 : decode cX12_text 217 = .ok (.getfield 372, 3) := by decide +kernel
theorem dX12_text_220 : decode cX12_text 220 = .ok (.if_icmp .ge 100, 3) := by decide +kernel
theorem dX12_text_223 : decode cX12_text 223 = .ok (.aload_n 0, 1) := by decide +kernel
theorem dX12_text_224 : decode cX12_text 224 = .ok (.getfield 30, 3) := by decide +kernel
theorem dX12_text_227 : decode cX12_text 227 = .ok (.bipush 24, 2) := by decide +kernel
theorem dX12_text_229 : decode cX12_text 229 = .ok (.iload_n 1, 1) := by decide +kernel
theorem dX12_text_230 : decode cX12_text 230 = .ok (.imul, 1) := by decide +kernel
theorem dX12_text_231 : decode cX12_text 231 = .ok (.iload_n 2, 1) := by decide +kernel
theorem dX12_text_232 : decode cX12_text 232 = .ok (.iadd, 1) := by decide +kernel
theorem dX12_text_233 : decode cX12_text 233 = .ok (.aload_n 0, 1) := by decide +kernel
theorem dX12_text_234 : decode cX12_text 234 = .ok (.getfield 66, 3) := by decide +kernel
theorem dX12_text_237 : decode cX12_text 237 = .ok (.iload_n 2, 1) := by decide +kernel
theorem dX12_text_238 : decode cX12_text 238 = .ok (.iaload, 1) := by decide +kernel
theorem dX12_text_239 : decode cX12_text 239 = .ok (.iastore, 1) := by decide +kernel
theorem dX12_text_240 : decode cX12_text 240 = .ok (.aload_n 0, 1) := by decide +kernel
theorem dX12_text_241 : decode cX12_text 241 = .ok (.getfield 33, 3) := by decide +kernel
theorem dX12_text_244 : decode cX12_text 244 = .ok (.bipush 24, 2) := by decide +kernel
theorem dX12_text_246 : decode cX12_text 246 = .ok (.iload_n 1, 1) := by decide +kernel
theorem dX12_text_247 : decode cX12_text 247 = .ok (.imul, 1) := by decide +kernel
theorem dX12_text_248 : decode cX12_text 248 = .ok (.iload_n 2, 1) := by decide +kernel
theorem dX12_text_249 : decode cX12_text 249 = .ok (.iadd, 1) := by decide +kernel
theorem dX12_text_250 : decode cX12_text 250 = .ok (.sipush 400, 3) := by decide +kernel
theorem dX12_text_253 : decode cX12_text 253 = .ok (.iload_n 1, 1) := by decide +kernel
theorem dX12_text_254 : decode cX12_text 254 = .ok (.imul, 1) := by decide +kernel
theorem dX12_text_255 : decode cX12_text 255 = .ok (.aload_n 0, 1) := by decide +kernel
theorem dX12_text_256 : decode cX12_text 256 = .ok (.getfield 69, 3) := by decide +kernel
theorem dX12_text_259 : decode cX12_text 259 = .ok (.iload_n 2, 1) := by decide +kernel
theorem dX12_text_260 : decode cX12_text 260 = .ok (.iaload, 1) := by decide +kernel
theorem dX12_text_261 : decode cX12_text 261 = .ok (.iadd, 1) := by decide +kernel
theorem dX12_text_262 : decode cX12_text 262 = .ok (.iastore, 1) := by decide +kernel
theorem dX12_text_263 : decode cX12_text 263 = .ok (.aload_n 0, 1) := by decide +kernel
theorem dX12_text_264 : decode cX12_text 264 = .ok (.getfield 36, 3) := by decide +kernel
theorem dX12_text_267 : decode cX12_text 267 = .ok (.bipush 24, 2) := by decide +kernel
theorem dX12_text_269 : decode cX12_text 269 = .ok (.iload_n 1, 1) := by decide +kernel
theorem dX12_text_270 : decode cX12_text 270 = .ok (.imul, 1) := by decide +kernel
theorem dX12_text_271 : decode cX12_text 271 = .ok (.iload_n 2, 1) := by decide +kernel
theorem dX12_text_272 : decode cX12_text 272 = .ok (.iadd, 1) := by decide +kernel
theorem dX12_text_273 : decode cX12_text 273 = .ok (.aload_n 0, 1) := by decide +kernel
theorem dX12_text_274 : decode cX12_text 274 = .ok (.getfield 72, 3) := by decide +kernel
theorem dX12_text_277 : decode cX12_text 277 = .ok (.iload_n 2, 1) := by decide +kernel
theorem dX12_text_278 : decode cX12_text 278 = .ok (.iaload, 1) := by decide +kernel
theorem dX12_text_279 : decode cX12_text 279 = .ok (.iastore, 1) := by decide +kernel
theorem dX12_text_280 : decode cX12_text 280 = .ok (.aload_n 0, 1) := by decide +kernel
theorem dX12_text_281 : decode cX12_text 281 = .ok (.getfield 39, 3) := by decide +kernel
theorem dX12_text_284 : decode cX12_text 284 = .ok (.bipush 24, 2) := by decide +kernel
theorem dX12_text_286 : decode cX12_text 286 = .ok (.iload_n 1, 1) := by decide +kernel
theorem dX12_text_287 : decode cX12_text 287 = .ok (.imul, 1) := by decide +kernel
theorem dX12_text_288 : decode cX12_text 288 = .ok (.iload_n 2, 1) := by decide +kernel
theorem dX12_text_289 : decode cX12_text 289 = .ok (.iadd, 1) := by decide +kernel
theorem dX12_text_290 : decode cX12_text 290 = .ok (.aload_n 0, 1) := by decide +kernel
theorem dX12_text_291 : decode cX12_text 291 = .ok (.getfield 75, 3) := by decide +kernel
theorem dX12_text_294 : decode cX12_text 294 = .ok (.iload_n 2, 1) := by decide +kernel
theorem dX12_text_295 : decode cX12_text 295 = .ok (.iaload, 1) := by decide +kernel
theorem dX12_text_296 : decode cX12_text 296 = .ok (.iastore, 1) := by decide +kernel
theorem dX12_text_297 : decode cX12_text 297 = .ok (.aload_n 0, 1) := by decide +kernel
theorem dX12_text_298 : decode cX12_text 298 = .ok (.getfield 42, 3) := by decide +kernel
theorem dX12_text_301 : decode cX12_text 301 = .ok (.bipush 24, 2) := by decide +kernel
theorem dX12_text_303 : decode cX12_text 303 = .ok (.iload_n 1, 1) := by decide +kernel
theorem dX12_text_304 : decode cX12_text 304 = .ok (.imul, 1) := by decide +kernel
theorem dX12_text_305 : decode cX12_text 305 = .ok (.iload_n 2, 1) := by decide +kernel
theorem dX12_text_306 : decode cX12_text 306 = .ok (.iadd, 1) := by decide +kernel
theorem dX12_text_307 : decode cX12_text 307 = .ok (.aload_n 0, 1) := by decide +kernel
theorem dX12_text_308 : decode cX12_text 308 = .ok (.getfield 78, 3) := by decide +kernel
theorem dX12_text_311 : decode cX12_text 311 = .ok (.iload_n 2, 1) := by decide +kernel
theorem dX12_text_312 : decode cX12_text 312 = .ok (.iaload, 1) := by decide +kernel
theorem dX12_text_313 : decode cX12_text 313 = .ok (.iastore, 1) := by decide +kernel
theorem dX12_text_314 : decode cX12_text 314 = .ok (.iinc 2 1, 3) := by decide +kernel
theorem dX12_text_317 : decode cX12_text 317 = .ok (.goto (-102), 3) := by decide +kernel
theorem dX12_text_320 : decode cX12_text 320 = .ok (.iconst 0, 1) := by decide +kernel
theorem dX12_text_321 : decode cX12_text 321 = .ok (.istore_n 2, 1) := by decide +kernel
theorem dX12_text_322 : decode cX12_text 322 = .ok (.iload_n 2, 1) := by decide +kernel
theorem dX12_text_323 : decode cX12_text 323 = .ok (.aload_n 0, 1) := by decide +kernel
theorem dX12_text_324 : decode cX12_text 324 = .ok (.getfield 296, 3) := by decide +kernel
theorem dX12_text_327 : decode cX12_text 327 = .ok (.if_icmp .ge 89, 3) := by decide +kernel
theorem dX12_text_330 : decode cX12_text 330 = .ok (.aload_n 0, 1) := by decide +kernel
theorem dX12_text_331 : decode cX12_text 331 = .ok (.getfield 81, 3) := by decide +kernel
theorem dX12_text_334 : decode cX12_text 334 = .ok (.iload_n 2, 1) := by decide +kernel
theorem dX12_text_335 : decode cX12_text 335 = .ok (.iaload, 1) := by decide +kernel
theorem dX12_text_336 : decode cX12_text 336 = .ok (.sipush 403, 3) := by decide +kernel
theorem dX12_text_339 : decode cX12_text 339 = .ok (.if_icmp .eq 15, 3) := by decide +kernel
theorem dX12_text_342 : decode cX12_text 342 = .ok (.aload_n 0, 1) := by decide +kernel
theorem dX12_text_343 : decode cX12_text 343 = .ok (.getfield 81, 3) := by decide +kernel
theorem dX12_text_346 : decode cX12_text 346 = .ok (.iload_n 2, 1) := by decide +kernel
theorem dX12_text_347 : decode cX12_text 347 = .ok (.iaload, 1) := by decide +kernel
theorem dX12_text_348 : decode cX12_text 348 = .ok (.sipush 404, 3) := by decide +kernel
theorem dX12_text_351 : decode cX12_text 351 = .ok (.if_icmp .ne 7, 3) := by decide +kernel
theorem dX12_text_354 : decode cX12_text 354 = .ok (.iconst 1, 1) := by decide +kernel
theorem dX12_text_355 : decode cX12_text 355 = .ok (.goto 4, 3) := by decide +kernel
theorem dX12_text_358 : decode cX12_text 358 = .ok (.iconst 0, 1) := by decide +kernel
theorem dX12_text_359 : decode cX12_text 359 = .ok (.istore_n 3, 1) := by decide +kernel
theorem dX12_text_360 : decode cX12_text 360 = .ok (.aload_n 0, 1) := by decide +kernel
theorem dX12_text_361 : decode cX12_text 361 = .ok (.getfield 45, 3) := by decide +kernel
theorem dX12_text_364 : decode cX12_text 364 = .ok (.sipush 400, 3) := by decide +kernel
theorem dX12_text_367 : decode cX12_text 367 = .ok (.iload_n 1, 1) := by decide +kernel
theorem dX12_text_368 : decode cX12_text 368 = .ok (.imul, 1) := by decide +kernel
theorem dX12_text_369 : decode cX12_text 369 = .ok (.iload_n 2, 1) := by decide +kernel
theorem dX12_text_370 : decode cX12_text 370 = .ok (.iadd, 1) := by decide +kernel
theorem dX12_text_371 : decode cX12_text 371 = .ok (.aload_n 0, 1) := by decide +kernel
theorem dX12_text_372 : decode cX12_text 372 = .ok (.getfield 81, 3) := by decide +kernel
theorem dX12_text_375 : decode cX12_text 375 = .ok (.iload_n 2, 1) := by decide +kernel
theorem dX12_text_376 : decode cX12_text 376 = .ok (.iaload, 1) := by decide +kernel
theorem dX12_text_377 : decode cX12_text 377 = .ok (.iastore, 1) := by decide +kernel
theorem dX12_text_378 : decode cX12_text 378 = .ok (.aload_n 0, 1) := by decide +kernel
theorem dX12_text_379 : decode cX12_text 379 = .ok (.getfield 48, 3) := by decide +kernel
theorem dX12_text_382 : decode cX12_text 382 = .ok (.sipush 400, 3) := by decide +kernel
theorem dX12_text_385 : decode cX12_text 385 = .ok (.iload_n 1, 1) := by decide +kernel
theorem dX12_text_386 : decode cX12_text 386 = .ok (.imul, 1) := by decide +kernel
theorem dX12_text_387 : decode cX12_text 387 = .ok (.iload_n 2, 1) := by decide +kernel
theorem dX12_text_388 : decode cX12_text 388 = .ok (.iadd, 1) := by decide +kernel
theorem dX12_text_389 : decode cX12_text 389 = .ok (.aload_n 0, 1) := by decide +kernel
theorem dX12_text_390 : decode cX12_text 390 = .ok (.getfield 84, 3) := by decide +kernel
theorem dX12_text_393 : decode cX12_text 393 = .ok (.iload_n 2, 1) := by decide +kernel
theorem dX12_text_394 : decode cX12_text 394 = .ok (.iaload, 1) := by decide +kernel
theorem dX12_text_395 : decode cX12_text 395 = .ok (.iload_n 3, 1) := by decide +kernel
theorem dX12_text_396 : decode cX12_text 396 = .ok (.ifCond .eq 11, 3) := by decide +kernel
theorem dX12_text_399 : decode cX12_text 399 = .ok (.sipush 400, 3) := by decide +kernel
theorem dX12_text_402 : decode cX12_text 402 = .ok (.iload_n 1, 1) := by decide +kernel
theorem dX12_text_403 : decode cX12_text 403 = .ok (.imul, 1) := by decide +kernel
theorem dX12_text_404 : decode cX12_text 404 = .ok (.goto 4, 3) := by decide +kernel
theorem dX12_text_407 : decode cX12_text 407 = .ok (.iconst 0, 1) := by decide +kernel
theorem dX12_text_408 : decode cX12_text 408 = .ok (.iadd, 1) := by decide +kernel
theorem dX12_text_409 : decode cX12_text 409 = .ok (.iastore, 1) := by decide +kernel
theorem dX12_text_410 : decode cX12_text 410 = .ok (.iinc 2 1, 3) := by decide +kernel
theorem dX12_text_413 : decode cX12_text 413 = .ok (.goto (-91), 3) := by decide +kernel
theorem dX12_text_416 : decode cX12_text 416 = .ok (.aload_n 0, 1) := by decide +kernel
theorem dX12_text_417 : decode cX12_text 417 = .ok (.getfield 7, 3) := by decide +kernel
theorem dX12_text_420 : decode cX12_text 420 = .ok (.iconst 1, 1) := by decide +kernel
theorem dX12_text_421 : decode cX12_text 421 = .ok (.dup2, 1) := by decide +kernel
theorem dX12_text_422 : decode cX12_text 422 = .ok (.iaload, 1) := by decide +kernel
theorem dX12_text_423 : decode cX12_text 423 = .ok (.iconst 1, 1) := by decide +kernel
theorem dX12_text_424 : decode cX12_text 424 = .ok (.iadd, 1) := by decide +kernel
theorem dX12_text_425 : decode cX12_text 425 = .ok (.iastore, 1) := by decide +kernel
theorem dX12_text_426 : decode cX12_text 426 = .ok (.iload_n 1, 1) := by decide +kernel
theorem dX12_text_427 : decode cX12_text 427 = .ok (.ireturn, 1) := by decide +kernel
theorem dX12_fault_0 : decode cX12_fault 0 = .ok (.iload_n 1, 1) := by decide +kernel
theorem dX12_fault_1 : decode cX12_fault 1 = .ok (.ifCond .ne 10, 3) := by decide +kernel
theorem dX12_fault_4 : decode cX12_fault 4 = .ok (.aload_n 0, 1) := by decide +kernel
theorem dX12_fault_5 : decode cX12_fault 5 = .ok (.getfield 20, 3) := by decide +kernel
theorem dX12_fault_8 : decode cX12_fault 8 = .ok (.goto 16, 3) := by decide +kernel
theorem dX12_fault_11 : decode cX12_fault 11 = .ok (.iload_n 1, 1) := by decide +kernel
theorem dX12_fault_12 : decode cX12_fault 12 = .ok (.iconst 1, 1) := by decide +kernel
theorem dX12_fault_13 : decode cX12_fault 13 = .ok (.if_icmp .ne 10, 3) := by decide +kernel
theorem dX12_fault_16 : decode cX12_fault 16 = .ok (.aload_n 0, 1) := by decide +kernel
theorem dX12_fault_17 : decode cX12_fault 17 = .ok (.getfield 24, 3) := by decide +kernel
theorem dX12_fault_20 : decode cX12_fault 20 = .ok (.goto 4, 3) := by decide +kernel
theorem dX12_fault_23 : decode cX12_fault 23 = .ok (.iconst (-1), 1) := by decide +kernel
theorem dX12_fault_24 : decode cX12_fault 24 = .ok (.ireturn, 1) := by decide +kernel
theorem dX12_bound_0 : decode cX12_bound 0 = .ok (.lload_n 0, 1) := by decide +kernel
theorem dX12_bound_1 : decode cX12_bound 1 = .ok (.ldc2_w 403, 3) := by decide +kernel
theorem dX12_bound_4 : decode cX12_bound 4 = .ok (.lcmp, 1) := by decide +kernel
theorem dX12_bound_5 : decode cX12_bound 5 = .ok (.ifCond .le 9, 3) := by decide +kernel
theorem dX12_bound_8 : decode cX12_bound 8 = .ok (.ldc2_w 403, 3) := by decide +kernel
theorem dX12_bound_11 : decode cX12_bound 11 = .ok (.goto 18, 3) := by decide +kernel
theorem dX12_bound_14 : decode cX12_bound 14 = .ok (.lload_n 0, 1) := by decide +kernel
theorem dX12_bound_15 : decode cX12_bound 15 = .ok (.ldc2_w 405, 3) := by decide +kernel
theorem dX12_bound_18 : decode cX12_bound 18 = .ok (.lcmp, 1) := by decide +kernel
theorem dX12_bound_19 : decode cX12_bound 19 = .ok (.ifCond .ge 9, 3) := by decide +kernel
theorem dX12_bound_22 : decode cX12_bound 22 = .ok (.ldc2_w 405, 3) := by decide +kernel
theorem dX12_bound_25 : decode cX12_bound 25 = .ok (.goto 4, 3) := by decide +kernel
theorem dX12_bound_28 : decode cX12_bound 28 = .ok (.lload_n 0, 1) := by decide +kernel
theorem dX12_bound_29 : decode cX12_bound 29 = .ok (.lreturn, 1) := by decide +kernel
theorem dX12_worked_0 : decode cX12_worked 0 = .ok (.iload_n 0, 1) := by decide +kernel
theorem dX12_worked_1 : decode cX12_worked 1 = .ok (.lookupswitch 210 #[(35, 170), (42, 113), (43, 99), (45, 106), (47, 120), (60, 134), (61, 158), (62, 146), (300, 182), (301, 194), (406, 206)], 99) := by decide +kernel
theorem dX12_worked_100 : decode cX12_worked 100 = .ok (.lload_n 1, 1) := by decide +kernel
theorem dX12_worked_101 : decode cX12_worked 101 = .ok (.lload_n 3, 1) := by decide +kernel
theorem dX12_worked_102 : decode cX12_worked 102 = .ok (.ladd, 1) := by decide +kernel
theorem dX12_worked_103 : decode cX12_worked 103 = .ok (.invokestatic 407, 3) := by decide +kernel
theorem dX12_worked_106 : decode cX12_worked 106 = .ok (.lreturn, 1) := by decide +kernel
theorem dX12_worked_107 : decode cX12_worked 107 = .ok (.lload_n 1, 1) := by decide +kernel
theorem dX12_worked_108 : decode cX12_worked 108 = .ok (.lload_n 3, 1) := by decide +kernel
theorem dX12_worked_109 : decode cX12_worked 109 = .ok (.lsub, 1) := by decide +kernel
theorem dX12_worked_110 : decode cX12_worked 110 = .ok (.invokestatic 407, 3) := by decide +kernel
theorem dX12_worked_113 : decode cX12_worked 113 = .ok (.lreturn, 1) := by decide +kernel
theorem dX12_worked_114 : decode cX12_worked 114 = .ok (.lload_n 1, 1) := by decide +kernel
theorem dX12_worked_115 : decode cX12_worked 115 = .ok (.lload_n 3, 1) := by decide +kernel
theorem dX12_worked_116 : decode cX12_worked 116 = .ok (.lmul, 1) := by decide +kernel
theorem dX12_worked_117 : decode cX12_worked 117 = .ok (.invokestatic 407, 3) := by decide +kernel
theorem dX12_worked_120 : decode cX12_worked 120 = .ok (.lreturn, 1) := by decide +kernel
theorem dX12_worked_121 : decode cX12_worked 121 = .ok (.lload_n 3, 1) := by decide +kernel
theorem dX12_worked_122 : decode cX12_worked 122 = .ok (.lconst 0, 1) := by decide +kernel
theorem dX12_worked_123 : decode cX12_worked 123 = .ok (.lcmp, 1) := by decide +kernel
theorem dX12_worked_124 : decode cX12_worked 124 = .ok (.ifCond .ne 7, 3) := by decide +kernel
theorem dX12_worked_127 : decode cX12_worked 127 = .ok (.lconst 0, 1) := by decide +kernel
theorem dX12_worked_128 : decode cX12_worked 128 = .ok (.goto 6, 3) := by decide +kernel
theorem dX12_worked_131 : decode cX12_worked 131 = .ok (.lload_n 1, 1) := by decide +kernel
theorem dX12_worked_132 : decode cX12_worked 132 = .ok (.lload_n 3, 1) := by decide +kernel
theorem dX12_worked_133 : decode cX12_worked 133 = .ok (.ldiv, 1) := by decide +kernel
theorem dX12_worked_134 : decode cX12_worked 134 = .ok (.lreturn, 1) := by decide +kernel
theorem dX12_worked_135 : decode cX12_worked 135 = .ok (.lload_n 1, 1) := by decide +kernel
theorem dX12_worked_136 : decode cX12_worked 136 = .ok (.lload_n 3, 1) := by decide +kernel
theorem dX12_worked_137 : decode cX12_worked 137 = .ok (.lcmp, 1) := by decide +kernel
theorem dX12_worked_138 : decode cX12_worked 138 = .ok (.ifCond .ge 7, 3) := by decide +kernel
theorem dX12_worked_141 : decode cX12_worked 141 = .ok (.lconst 1, 1) := by decide +kernel
theorem dX12_worked_142 : decode cX12_worked 142 = .ok (.goto 4, 3) := by decide +kernel
theorem dX12_worked_145 : decode cX12_worked 145 = .ok (.lconst 0, 1) := by decide +kernel
theorem dX12_worked_146 : decode cX12_worked 146 = .ok (.lreturn, 1) := by decide +kernel
theorem dX12_worked_147 : decode cX12_worked 147 = .ok (.lload_n 1, 1) := by decide +kernel
theorem dX12_worked_148 : decode cX12_worked 148 = .ok (.lload_n 3, 1) := by decide +kernel
theorem dX12_worked_149 : decode cX12_worked 149 = .ok (.lcmp, 1) := by decide +kernel
theorem dX12_worked_150 : decode cX12_worked 150 = .ok (.ifCond .le 7, 3) := by decide +kernel
theorem dX12_worked_153 : decode cX12_worked 153 = .ok (.lconst 1, 1) := by decide +kernel
theorem dX12_worked_154 : decode cX12_worked 154 = .ok (.goto 4, 3) := by decide +kernel
theorem dX12_worked_157 : decode cX12_worked 157 = .ok (.lconst 0, 1) := by decide +kernel
theorem dX12_worked_158 : decode cX12_worked 158 = .ok (.lreturn, 1) := by decide +kernel
theorem dX12_worked_159 : decode cX12_worked 159 = .ok (.lload_n 1, 1) := by decide +kernel
theorem dX12_worked_160 : decode cX12_worked 160 = .ok (.lload_n 3, 1) := by decide +kernel
theorem dX12_worked_161 : decode cX12_worked 161 = .ok (.lcmp, 1) := by decide +kernel
theorem dX12_worked_162 : decode cX12_worked 162 = .ok (.ifCond .ne 7, 3) := by decide +kernel
theorem dX12_worked_165 : decode cX12_worked 165 = .ok (.lconst 1, 1) := by decide +kernel
theorem dX12_worked_166 : decode cX12_worked 166 = .ok (.goto 4, 3) := by decide +kernel
theorem dX12_worked_169 : decode cX12_worked 169 = .ok (.lconst 0, 1) := by decide +kernel
theorem dX12_worked_170 : decode cX12_worked 170 = .ok (.lreturn, 1) := by decide +kernel
theorem dX12_worked_171 : decode cX12_worked 171 = .ok (.lload_n 1, 1) := by decide +kernel
theorem dX12_worked_172 : decode cX12_worked 172 = .ok (.lload_n 3, 1) := by decide +kernel
theorem dX12_worked_173 : decode cX12_worked 173 = .ok (.lcmp, 1) := by decide +kernel
theorem dX12_worked_174 : decode cX12_worked 174 = .ok (.ifCond .eq 7, 3) := by decide +kernel
theorem dX12_worked_177 : decode cX12_worked 177 = .ok (.lconst 1, 1) := by decide +kernel
theorem dX12_worked_178 : decode cX12_worked 178 = .ok (.goto 4, 3) := by decide +kernel
theorem dX12_worked_181 : decode cX12_worked 181 = .ok (.lconst 0, 1) := by decide +kernel
theorem dX12_worked_182 : decode cX12_worked 182 = .ok (.lreturn, 1) := by decide +kernel
theorem dX12_worked_183 : decode cX12_worked 183 = .ok (.lload_n 1, 1) := by decide +kernel
theorem dX12_worked_184 : decode cX12_worked 184 = .ok (.lload_n 3, 1) := by decide +kernel
theorem dX12_worked_185 : decode cX12_worked 185 = .ok (.lcmp, 1) := by decide +kernel
theorem dX12_worked_186 : decode cX12_worked 186 = .ok (.ifCond .gt 7, 3) := by decide +kernel
theorem dX12_worked_189 : decode cX12_worked 189 = .ok (.lconst 1, 1) := by decide +kernel
theorem dX12_worked_190 : decode cX12_worked 190 = .ok (.goto 4, 3) := by decide +kernel
theorem dX12_worked_193 : decode cX12_worked 193 = .ok (.lconst 0, 1) := by decide +kernel
theorem dX12_worked_194 : decode cX12_worked 194 = .ok (.lreturn, 1) := by decide +kernel
theorem dX12_worked_195 : decode cX12_worked 195 = .ok (.lload_n 1, 1) := by decide +kernel
theorem dX12_worked_196 : decode cX12_worked 196 = .ok (.lload_n 3, 1) := by decide +kernel
theorem dX12_worked_197 : decode cX12_worked 197 = .ok (.lcmp, 1) := by decide +kernel
theorem dX12_worked_198 : decode cX12_worked 198 = .ok (.ifCond .lt 7, 3) := by decide +kernel
theorem dX12_worked_201 : decode cX12_worked 201 = .ok (.lconst 1, 1) := by decide +kernel
theorem dX12_worked_202 : decode cX12_worked 202 = .ok (.goto 4, 3) := by decide +kernel
theorem dX12_worked_205 : decode cX12_worked 205 = .ok (.lconst 0, 1) := by decide +kernel
theorem dX12_worked_206 : decode cX12_worked 206 = .ok (.lreturn, 1) := by decide +kernel
theorem dX12_worked_207 : decode cX12_worked 207 = .ok (.lload_n 1, 1) := by decide +kernel
theorem dX12_worked_208 : decode cX12_worked 208 = .ok (.lload_n 3, 1) := by decide +kernel
theorem dX12_worked_209 : decode cX12_worked 209 = .ok (.lmul, 1) := by decide +kernel
theorem dX12_worked_210 : decode cX12_worked 210 = .ok (.lreturn, 1) := by decide +kernel
theorem dX12_worked_211 : decode cX12_worked 211 = .ok (.lload_n 1, 1) := by decide +kernel
theorem dX12_worked_212 : decode cX12_worked 212 = .ok (.lload_n 3, 1) := by decide +kernel
theorem dX12_worked_213 : decode cX12_worked 213 = .ok (.ladd, 1) := by decide +kernel
theorem dX12_worked_214 : decode cX12_worked 214 = .ok (.lconst 0, 1) := by decide +kernel
theorem dX12_worked_215 : decode cX12_worked 215 = .ok (.lcmp, 1) := by decide +kernel
theorem dX12_worked_216 : decode cX12_worked 216 = .ok (.ifCond .le 7, 3) := by decide +kernel
theorem dX12_worked_219 : decode cX12_worked 219 = .ok (.lconst 1, 1) := by decide +kernel
theorem dX12_worked_220 : decode cX12_worked 220 = .ok (.goto 4, 3) := by decide +kernel
theorem dX12_worked_223 : decode cX12_worked 223 = .ok (.lconst 0, 1) := by decide +kernel
theorem dX12_worked_224 : decode cX12_worked 224 = .ok (.lreturn, 1) := by decide +kernel
theorem dX12_saysOf_0 : decode cX12_saysOf 0 = .ok (.iconst 0, 1) := by decide +kernel
theorem dX12_saysOf_1 : decode cX12_saysOf 1 = .ok (.istore_n 2, 1) := by decide +kernel
theorem dX12_saysOf_2 : decode cX12_saysOf 2 = .ok (.iload_n 1, 1) := by decide +kernel
theorem dX12_saysOf_3 : decode cX12_saysOf 3 = .ok (.istore_n 3, 1) := by decide +kernel
theorem dX12_saysOf_4 : decode cX12_saysOf 4 = .ok (.aload_n 0, 1) := by decide +kernel
theorem dX12_saysOf_5 : decode cX12_saysOf 5 = .ok (.getfield 45, 3) := by decide +kernel
theorem dX12_saysOf_8 : decode cX12_saysOf 8 = .ok (.iload_n 3, 1) := by decide +kernel
theorem dX12_saysOf_9 : decode cX12_saysOf 9 = .ok (.iaload, 1) := by decide +kernel
theorem dX12_saysOf_10 : decode cX12_saysOf 10 = .ok (.sipush 408, 3) := by decide +kernel
theorem dX12_saysOf_13 : decode cX12_saysOf 13 = .ok (.if_icmp .eq 220, 3) := by decide +kernel
theorem dX12_saysOf_16 : decode cX12_saysOf 16 = .ok (.aload_n 0, 1) := by decide +kernel
theorem dX12_saysOf_17 : decode cX12_saysOf 17 = .ok (.getfield 45, 3) := by decide +kernel
theorem dX12_saysOf_20 : decode cX12_saysOf 20 = .ok (.iload_n 3, 1) := by decide +kernel
theorem dX12_saysOf_21 : decode cX12_saysOf 21 = .ok (.iaload, 1) := by decide +kernel
theorem dX12_saysOf_22 : decode cX12_saysOf 22 = .ok (.istore 4, 2) := by decide +kernel
theorem dX12_saysOf_24 : decode cX12_saysOf 24 = .ok (.iload 4, 2) := by decide +kernel
theorem dX12_saysOf_26 : decode cX12_saysOf 26 = .ok (.sipush 400, 3) := by decide +kernel
theorem dX12_saysOf_29 : decode cX12_saysOf 29 = .ok (.if_icmp .eq 11, 3) := by decide +kernel
theorem dX12_saysOf_32 : decode cX12_saysOf 32 = .ok (.iload 4, 2) := by decide +kernel
theorem dX12_saysOf_34 : decode cX12_saysOf 34 = .ok (.sipush 401, 3) := by decide +kernel
theorem dX12_saysOf_37 : decode cX12_saysOf 37 = .ok (.if_icmp .ne 45, 3) := by decide +kernel
theorem dX12_saysOf_40 : decode cX12_saysOf 40 = .ok (.aload_n 0, 1) := by decide +kernel
theorem dX12_saysOf_41 : decode cX12_saysOf 41 = .ok (.getfield 90, 3) := by decide +kernel
theorem dX12_saysOf_44 : decode cX12_saysOf 44 = .ok (.iload_n 2, 1) := by decide +kernel
theorem dX12_saysOf_45 : decode cX12_saysOf 45 = .ok (.iload 4, 2) := by decide +kernel
theorem dX12_saysOf_47 : decode cX12_saysOf 47 = .ok (.sipush 400, 3) := by decide +kernel
theorem dX12_saysOf_50 : decode cX12_saysOf 50 = .ok (.if_icmp .ne 13, 3) := by decide +kernel
theorem dX12_saysOf_53 : decode cX12_saysOf 53 = .ok (.aload_n 0, 1) := by decide +kernel
theorem dX12_saysOf_54 : decode cX12_saysOf 54 = .ok (.getfield 48, 3) := by decide +kernel
theorem dX12_saysOf_57 : decode cX12_saysOf 57 = .ok (.iload_n 3, 1) := by decide +kernel
theorem dX12_saysOf_58 : decode cX12_saysOf 58 = .ok (.iaload, 1) := by decide +kernel
theorem dX12_saysOf_59 : decode cX12_saysOf 59 = .ok (.i2l, 1) := by decide +kernel
theorem dX12_saysOf_60 : decode cX12_saysOf 60 = .ok (.goto 15, 3) := by decide +kernel
theorem dX12_saysOf_63 : decode cX12_saysOf 63 = .ok (.aload_n 0, 1) := by decide +kernel
theorem dX12_saysOf_64 : decode cX12_saysOf 64 = .ok (.getfield 87, 3) := by decide +kernel
theorem dX12_saysOf_67 : decode cX12_saysOf 67 = .ok (.aload_n 0, 1) := by decide +kernel
theorem dX12_saysOf_68 : decode cX12_saysOf 68 = .ok (.getfield 48, 3) := by decide +kernel
theorem dX12_saysOf_71 : decode cX12_saysOf 71 = .ok (.iload_n 3, 1) := by decide +kernel
theorem dX12_saysOf_72 : decode cX12_saysOf 72 = .ok (.iaload, 1) := by decide +kernel
theorem dX12_saysOf_73 : decode cX12_saysOf 73 = .ok (.iaload, 1) := by decide +kernel
theorem dX12_saysOf_74 : decode cX12_saysOf 74 = .ok (.i2l, 1) := by decide +kernel
theorem dX12_saysOf_75 : decode cX12_saysOf 75 = .ok (.lastore, 1) := by decide +kernel
theorem dX12_saysOf_76 : decode cX12_saysOf 76 = .ok (.iinc 2 1, 3) := by decide +kernel
theorem dX12_saysOf_79 : decode cX12_saysOf 79 = .ok (.goto 148, 3) := by decide +kernel
theorem dX12_saysOf_82 : decode cX12_saysOf 82 = .ok (.iload 4, 2) := by decide +kernel
theorem dX12_saysOf_84 : decode cX12_saysOf 84 = .ok (.sipush 403, 3) := by decide +kernel
theorem dX12_saysOf_87 : decode cX12_saysOf 87 = .ok (.if_icmp .ne 33, 3) := by decide +kernel
theorem dX12_saysOf_90 : decode cX12_saysOf 90 = .ok (.iinc 2 (-1), 3) := by decide +kernel
theorem dX12_saysOf_93 : decode cX12_saysOf 93 = .ok (.aload_n 0, 1) := by decide +kernel
theorem dX12_saysOf_94 : decode cX12_saysOf 94 = .ok (.getfield 90, 3) := by decide +kernel
theorem dX12_saysOf_97 : decode cX12_saysOf 97 = .ok (.iload_n 2, 1) := by decide +kernel
theorem dX12_saysOf_98 : decode cX12_saysOf 98 = .ok (.laload, 1) := by decide +kernel
theorem dX12_saysOf_99 : decode cX12_saysOf 99 = .ok (.lconst 0, 1) := by decide +kernel
theorem dX12_saysOf_100 : decode cX12_saysOf 100 = .ok (.lcmp, 1) := by decide +kernel
theorem dX12_saysOf_101 : decode cX12_saysOf 101 = .ok (.ifCond .ne 14, 3) := by decide +kernel
theorem dX12_saysOf_104 : decode cX12_saysOf 104 = .ok (.aload_n 0, 1) := by decide +kernel
theorem dX12_saysOf_105 : decode cX12_saysOf 105 = .ok (.getfield 48, 3) := by decide +kernel
theorem dX12_saysOf_108 : decode cX12_saysOf 108 = .ok (.iload_n 3, 1) := by decide +kernel
theorem dX12_saysOf_109 : decode cX12_saysOf 109 = .ok (.iaload, 1) := by decide +kernel
theorem dX12_saysOf_110 : decode cX12_saysOf 110 = .ok (.iconst 1, 1) := by decide +kernel
theorem dX12_saysOf_111 : decode cX12_saysOf 111 = .ok (.isub, 1) := by decide +kernel
theorem dX12_saysOf_112 : decode cX12_saysOf 112 = .ok (.goto 4, 3) := by decide +kernel
theorem dX12_saysOf_115 : decode cX12_saysOf 115 = .ok (.iload_n 3, 1) := by decide +kernel
theorem dX12_saysOf_116 : decode cX12_saysOf 116 = .ok (.istore_n 3, 1) := by decide +kernel
theorem dX12_saysOf_117 : decode cX12_saysOf 117 = .ok (.goto 110, 3) := by decide +kernel
theorem dX12_saysOf_120 : decode cX12_saysOf 120 = .ok (.iload 4, 2) := by decide +kernel
theorem dX12_saysOf_122 : decode cX12_saysOf 122 = .ok (.sipush 404, 3) := by decide +kernel
theorem dX12_saysOf_125 : decode cX12_saysOf 125 = .ok (.if_icmp .ne 15, 3) := by decide +kernel
theorem dX12_saysOf_128 : decode cX12_saysOf 128 = .ok (.aload_n 0, 1) := by decide +kernel
theorem dX12_saysOf_129 : decode cX12_saysOf 129 = .ok (.getfield 48, 3) := by decide +kernel
theorem dX12_saysOf_132 : decode cX12_saysOf 132 = .ok (.iload_n 3, 1) := by decide +kernel
theorem dX12_saysOf_133 : decode cX12_saysOf 133 = .ok (.iaload, 1) := by decide +kernel
theorem dX12_saysOf_134 : decode cX12_saysOf 134 = .ok (.iconst 1, 1) := by decide +kernel
theorem dX12_saysOf_135 : decode cX12_saysOf 135 = .ok (.isub, 1) := by decide +kernel
theorem dX12_saysOf_136 : decode cX12_saysOf 136 = .ok (.istore_n 3, 1) := by decide +kernel
theorem dX12_saysOf_137 : decode cX12_saysOf 137 = .ok (.goto 90, 3) := by decide +kernel
theorem dX12_saysOf_140 : decode cX12_saysOf 140 = .ok (.iload 4, 2) := by decide +kernel
theorem dX12_saysOf_142 : decode cX12_saysOf 142 = .ok (.sipush 402, 3) := by decide +kernel
theorem dX12_saysOf_145 : decode cX12_saysOf 145 = .ok (.if_icmp .ne 23, 3) := by decide +kernel
theorem dX12_saysOf_148 : decode cX12_saysOf 148 = .ok (.aload_n 0, 1) := by decide +kernel
theorem dX12_saysOf_149 : decode cX12_saysOf 149 = .ok (.getfield 90, 3) := by decide +kernel
theorem dX12_saysOf_152 : decode cX12_saysOf 152 = .ok (.iload_n 2, 1) := by decide +kernel
theorem dX12_saysOf_153 : decode cX12_saysOf 153 = .ok (.iconst 1, 1) := by decide +kernel
theorem dX12_saysOf_154 : decode cX12_saysOf 154 = .ok (.isub, 1) := by decide +kernel
theorem dX12_saysOf_155 : decode cX12_saysOf 155 = .ok (.aload_n 0, 1) := by decide +kernel
theorem dX12_saysOf_156 : decode cX12_saysOf 156 = .ok (.getfield 90, 3) := by decide +kernel
theorem dX12_saysOf_159 : decode cX12_saysOf 159 = .ok (.iload_n 2, 1) := by decide +kernel
theorem dX12_saysOf_160 : decode cX12_saysOf 160 = .ok (.iconst 1, 1) := by decide +kernel
theorem dX12_saysOf_161 : decode cX12_saysOf 161 = .ok (.isub, 1) := by decide +kernel
theorem dX12_saysOf_162 : decode cX12_saysOf 162 = .ok (.laload, 1) := by decide +kernel
theorem dX12_saysOf_163 : decode cX12_saysOf 163 = .ok (.lneg, 1) := by decide +kernel
theorem dX12_saysOf_164 : decode cX12_saysOf 164 = .ok (.lastore, 1) := by decide +kernel
theorem dX12_saysOf_165 : decode cX12_saysOf 165 = .ok (.goto 62, 3) := by decide +kernel
