theorem d_MO_init_0 : decode b_MO_init 0 = .ok (.aload_n 0, 1) := by decide +kernel
theorem d_MO_init_1 : decode b_MO_init 1 = .ok (.invokespecial 1, 3) := by decide +kernel
theorem d_MO_init_4 : decode b_MO_init 4 = .ok (.aload_n 0, 1) := by decide +kernel
theorem d_MO_init_5 : decode b_MO_init 5 = .ok (.iconst 4, 1) := by decide +kernel
theorem d_MO_init_6 : decode b_MO_init 6 = .ok (.newarray .int, 2) := by decide +kernel
theorem d_MO_init_8 : decode b_MO_init 8 = .ok (.putfield 7, 3) := by decide +kernel
theorem d_MO_init_11 : decode b_MO_init 11 = .ok (.aload_n 0, 1) := by decide +kernel
theorem d_MO_init_12 : decode b_MO_init 12 = .ok (.bipush 8, 2) := by decide +kernel
theorem d_MO_init_14 : decode b_MO_init 14 = .ok (.newarray .int, 2) := by decide +kernel
theorem d_MO_init_16 : decode b_MO_init 16 = .ok (.putfield 13, 3) := by decide +kernel
theorem d_MO_init_19 : decode b_MO_init 19 = .ok (.aload_n 0, 1) := by decide +kernel
theorem d_MO_init_20 : decode b_MO_init 20 = .ok (.bipush 8, 2) := by decide +kernel
theorem d_MO_init_22 : decode b_MO_init 22 = .ok (.newarray .int, 2) := by decide +kernel
theorem d_MO_init_24 : decode b_MO_init 24 = .ok (.putfield 16, 3) := by decide +kernel
theorem d_MO_init_27 : decode b_MO_init 27 = .ok (.aload_n 0, 1) := by decide +kernel
theorem d_MO_init_28 : decode b_MO_init 28 = .ok (.bipush 8, 2) := by decide +kernel
theorem d_MO_init_30 : decode b_MO_init 30 = .ok (.newarray .int, 2) := by decide +kernel
theorem d_MO_init_32 : decode b_MO_init 32 = .ok (.putfield 19, 3) := by decide +kernel
theorem d_MO_init_35 : decode b_MO_init 35 = .ok (.aload_n 0, 1) := by decide +kernel
theorem d_MO_init_36 : decode b_MO_init 36 = .ok (.bipush 8, 2) := by decide +kernel
theorem d_MO_init_38 : decode b_MO_init 38 = .ok (.newarray .int, 2) := by decide +kernel
theorem d_MO_init_40 : decode b_MO_init 40 = .ok (.putfield 22, 3) := by decide +kernel
theorem d_MO_init_43 : decode b_MO_init 43 = .ok (.aload_n 0, 1) := by decide +kernel
theorem d_MO_init_44 : decode b_MO_init 44 = .ok (.bipush 8, 2) := by decide +kernel
theorem d_MO_init_46 : decode b_MO_init 46 = .ok (.newarray .int, 2) := by decide +kernel
theorem d_MO_init_48 : decode b_MO_init 48 = .ok (.putfield 25, 3) := by decide +kernel
theorem d_MO_init_51 : decode b_MO_init 51 = .ok (.aload_n 0, 1) := by decide +kernel
theorem d_MO_init_52 : decode b_MO_init 52 = .ok (.bipush 8, 2) := by decide +kernel
theorem d_MO_init_54 : decode b_MO_init 54 = .ok (.newarray .boolean, 2) := by decide +kernel
theorem d_MO_init_56 : decode b_MO_init 56 = .ok (.putfield 28, 3) := by decide +kernel
theorem d_MO_init_59 : decode b_MO_init 59 = .ok (.aload_n 0, 1) := by decide +kernel
theorem d_MO_init_60 : decode b_MO_init 60 = .ok (.bipush 8, 2) := by decide +kernel
theorem d_MO_init_62 : decode b_MO_init 62 = .ok (.newarray .boolean, 2) := by decide +kernel
theorem d_MO_init_64 : decode b_MO_init 64 = .ok (.putfield 32, 3) := by decide +kernel
theorem d_MO_init_67 : decode b_MO_init 67 = .ok (.aload_n 0, 1) := by decide +kernel
theorem d_MO_init_68 : decode b_MO_init 68 = .ok (.bipush 8, 2) := by decide +kernel
theorem d_MO_init_70 : decode b_MO_init 70 = .ok (.newarray .int, 2) := by decide +kernel
theorem d_MO_init_72 : decode b_MO_init 72 = .ok (.putfield 35, 3) := by decide +kernel
theorem d_MO_init_75 : decode b_MO_init 75 = .ok (.aload_n 0, 1) := by decide +kernel
theorem d_MO_init_76 : decode b_MO_init 76 = .ok (.bipush 8, 2) := by decide +kernel
theorem d_MO_init_78 : decode b_MO_init 78 = .ok (.newarray .int, 2) := by decide +kernel
theorem d_MO_init_80 : decode b_MO_init 80 = .ok (.putfield 38, 3) := by decide +kernel
theorem d_MO_init_83 : decode b_MO_init 83 = .ok (.aload_n 0, 1) := by decide +kernel
theorem d_MO_init_84 : decode b_MO_init 84 = .ok (.bipush 8, 2) := by decide +kernel
theorem d_MO_init_86 : decode b_MO_init 86 = .ok (.newarray .int, 2) := by decide +kernel
theorem d_MO_init_88 : decode b_MO_init 88 = .ok (.putfield 41, 3) := by decide +kernel
theorem d_MO_init_91 : decode b_MO_init 91 = .ok (.aload_n 0, 1) := by decide +kernel
theorem d_MO_init_92 : decode b_MO_init 92 = .ok (.bipush 8, 2) := by decide +kernel
theorem d_MO_init_94 : decode b_MO_init 94 = .ok (.newarray .int, 2) := by decide +kernel
theorem d_MO_init_96 : decode b_MO_init 96 = .ok (.putfield 44, 3) := by decide +kernel
theorem d_MO_init_99 : decode b_MO_init 99 = .ok (.aload_n 0, 1) := by decide +kernel
theorem d_MO_init_100 : decode b_MO_init 100 = .ok (.bipush 8, 2) := by decide +kernel
theorem d_MO_init_102 : decode b_MO_init 102 = .ok (.newarray .int, 2) := by decide +kernel
theorem d_MO_init_104 : decode b_MO_init 104 = .ok (.putfield 47, 3) := by decide +kernel
theorem d_MO_init_107 : decode b_MO_init 107 = .ok (.aload_n 0, 1) := by decide +kernel
theorem d_MO_init_108 : decode b_MO_init 108 = .ok (.bipush 8, 2) := by decide +kernel
theorem d_MO_init_110 : decode b_MO_init 110 = .ok (.newarray .int, 2) := by decide +kernel
theorem d_MO_init_112 : decode b_MO_init 112 = .ok (.putfield 50, 3) := by decide +kernel
theorem d_MO_init_115 : decode b_MO_init 115 = .ok (.aload_n 0, 1) := by decide +kernel
theorem d_MO_init_116 : decode b_MO_init 116 = .ok (.bipush 8, 2) := by decide +kernel
theorem d_MO_init_118 : decode b_MO_init 118 = .ok (.newarray .int, 2) := by decide +kernel
theorem d_MO_init_120 : decode b_MO_init 120 = .ok (.putfield 53, 3) := by decide +kernel
theorem d_MO_init_123 : decode b_MO_init 123 = .ok (.aload_n 0, 1) := by decide +kernel
theorem d_MO_init_124 : decode b_MO_init 124 = .ok (.bipush 32, 2) := by decide +kernel
theorem d_MO_init_126 : decode b_MO_init 126 = .ok (.newarray .int, 2) := by decide +kernel
theorem d_MO_init_128 : decode b_MO_init 128 = .ok (.putfield 56, 3) := by decide +kernel
theorem d_MO_init_131 : decode b_MO_init 131 = .ok (.aload_n 0, 1) := by decide +kernel
theorem d_MO_init_132 : decode b_MO_init 132 = .ok (.bipush 32, 2) := by decide +kernel
theorem d_MO_init_134 : decode b_MO_init 134 = .ok (.newarray .int, 2) := by decide +kernel
theorem d_MO_init_136 : decode b_MO_init 136 = .ok (.putfield 59, 3) := by decide +kernel
theorem d_MO_init_139 : decode b_MO_init 139 = .ok (.aload_n 0, 1) := by decide +kernel
theorem d_MO_init_140 : decode b_MO_init 140 = .ok (.bipush 32, 2) := by decide +kernel
theorem d_MO_init_142 : decode b_MO_init 142 = .ok (.newarray .int, 2) := by decide +kernel
theorem d_MO_init_144 : decode b_MO_init 144 = .ok (.putfield 62, 3) := by decide +kernel
theorem d_MO_init_147 : decode b_MO_init 147 = .ok (.aload_n 0, 1) := by decide +kernel
theorem d_MO_init_148 : decode b_MO_init 148 = .ok (.bipush 32, 2) := by decide +kernel
theorem d_MO_init_150 : decode b_MO_init 150 = .ok (.newarray .int, 2) := by decide +kernel
theorem d_MO_init_152 : decode b_MO_init 152 = .ok (.putfield 65, 3) := by decide +kernel
theorem d_MO_init_155 : decode b_MO_init 155 = .ok (.aload_n 0, 1) := by decide +kernel
theorem d_MO_init_156 : decode b_MO_init 156 = .ok (.bipush 32, 2) := by decide +kernel
theorem d_MO_init_158 : decode b_MO_init 158 = .ok (.newarray .int, 2) := by decide +kernel
theorem d_MO_init_160 : decode b_MO_init 160 = .ok (.putfield 68, 3) := by decide +kernel
theorem d_MO_init_163 : decode b_MO_init 163 = .ok (.aload_n 0, 1) := by decide +kernel
theorem d_MO_init_164 : decode b_MO_init 164 = .ok (.bipush 32, 2) := by decide +kernel
theorem d_MO_init_166 : decode b_MO_init 166 = .ok (.newarray .int, 2) := by decide +kernel
theorem d_MO_init_168 : decode b_MO_init 168 = .ok (.putfield 71, 3) := by decide +kernel
theorem d_MO_init_171 : decode b_MO_init 171 = .ok (.aload_n 0, 1) := by decide +kernel
theorem d_MO_init_172 : decode b_MO_init 172 = .ok (.bipush 32, 2) := by decide +kernel
theorem d_MO_init_174 : decode b_MO_init 174 = .ok (.newarray .int, 2) := by decide +kernel
theorem d_MO_init_176 : decode b_MO_init 176 = .ok (.putfield 74, 3) := by decide +kernel
theorem d_MO_init_179 : decode b_MO_init 179 = .ok (.aload_n 0, 1) := by decide +kernel
theorem d_MO_init_180 : decode b_MO_init 180 = .ok (.bipush 32, 2) := by decide +kernel
theorem d_MO_init_182 : decode b_MO_init 182 = .ok (.newarray .boolean, 2) := by decide +kernel
theorem d_MO_init_184 : decode b_MO_init 184 = .ok (.putfield 77, 3) := by decide +kernel
theorem d_MO_init_187 : decode b_MO_init 187 = .ok (.aload_n 0, 1) := by decide +kernel
theorem d_MO_init_188 : decode b_MO_init 188 = .ok (.bipush 32, 2) := by decide +kernel
theorem d_MO_init_190 : decode b_MO_init 190 = .ok (.newarray .boolean, 2) := by decide +kernel
theorem d_MO_init_192 : decode b_MO_init 192 = .ok (.putfield 80, 3) := by decide +kernel
theorem d_MO_init_195 : decode b_MO_init 195 = .ok (.aload_n 0, 1) := by decide +kernel
theorem d_MO_init_196 : decode b_MO_init 196 = .ok (.bipush 32, 2) := by decide +kernel
theorem d_MO_init_198 : decode b_MO_init 198 = .ok (.newarray .int, 2) := by decide +kernel
theorem d_MO_init_200 : decode b_MO_init 200 = .ok (.putfield 83, 3) := by decide +kernel
theorem d_MO_init_203 : decode b_MO_init 203 = .ok (.aload_n 0, 1) := by decide +kernel
theorem d_MO_init_204 : decode b_MO_init 204 = .ok (.bipush 32, 2) := by decide +kernel
theorem d_MO_init_206 : decode b_MO_init 206 = .ok (.newarray .int, 2) := by decide +kernel
theorem d_MO_init_208 : decode b_MO_init 208 = .ok (.putfield 86, 3) := by decide +kernel
theorem d_MO_init_211 : decode b_MO_init 211 = .ok (.aload_n 0, 1) := by decide +kernel
theorem d_MO_init_212 : decode b_MO_init 212 = .ok (.bipush 32, 2) := by decide +kernel
theorem d_MO_init_214 : decode b_MO_init 214 = .ok (.newarray .int, 2) := by decide +kernel
theorem d_MO_init_216 : decode b_MO_init 216 = .ok (.putfield 89, 3) := by decide +kernel
theorem d_MO_init_219 : decode b_MO_init 219 = .ok (.aload_n 0, 1) := by decide +kernel
theorem d_MO_init_220 : decode b_MO_init 220 = .ok (.bipush 32, 2) := by decide +kernel
theorem d_MO_init_222 : decode b_MO_init 222 = .ok (.newarray .int, 2) := by decide +kernel
theorem d_MO_init_224 : decode b_MO_init 224 = .ok (.putfield 92, 3) := by decide +kernel
theorem d_MO_init_227 : decode b_MO_init 227 = .ok (.aload_n 0, 1) := by decide +kernel
theorem d_MO_init_228 : decode b_MO_init 228 = .ok (.bipush 32, 2) := by decide +kernel
theorem d_MO_init_230 : decode b_MO_init 230 = .ok (.newarray .int, 2) := by decide +kernel
theorem d_MO_init_232 : decode b_MO_init 232 = .ok (.putfield 95, 3) := by decide +kernel
theorem d_MO_init_235 : decode b_MO_init 235 = .ok (.aload_n 0, 1) := by decide +kernel
theorem d_MO_init_236 : decode b_MO_init 236 = .ok (.bipush 32, 2) := by decide +kernel
theorem d_MO_init_238 : decode b_MO_init 238 = .ok (.newarray .boolean, 2) := by decide +kernel
theorem d_MO_init_240 : decode b_MO_init 240 = .ok (.putfield 98, 3) := by decide +kernel
theorem d_MO_init_243 : decode b_MO_init 243 = .ok (.aload_n 0, 1) := by decide +kernel
theorem d_MO_init_244 : decode b_MO_init 244 = .ok (.bipush 32, 2) := by decide +kernel
theorem d_MO_init_246 : decode b_MO_init 246 = .ok (.newarray .boolean, 2) := by decide +kernel
theorem d_MO_init_248 : decode b_MO_init 248 = .ok (.putfield 101, 3) := by decide +kernel
theorem d_MO_init_251 : decode b_MO_init 251 = .ok (.aload_n 0, 1) := by decide +kernel
theorem d_MO_init_252 : decode b_MO_init 252 = .ok (.bipush 32, 2) := by decide +kernel
theorem d_MO_init_254 : decode b_MO_init 254 = .ok (.newarray .int, 2) := by decide +kernel
theorem d_MO_init_256 : decode b_MO_init 256 = .ok (.putfield 104, 3) := by decide +kernel
theorem d_MO_init_259 : decode b_MO_init 259 = .ok (.aload_n 0, 1) := by decide +kernel
theorem d_MO_init_260 : decode b_MO_init 260 = .ok (.bipush 32, 2) := by decide +kernel
theorem d_MO_init_262 : decode b_MO_init 262 = .ok (.newarray .int, 2) := by decide +kernel
theorem d_MO_init_264 : decode b_MO_init 264 = .ok (.putfield 107, 3) := by decide +kernel
theorem d_MO_init_267 : decode b_MO_init 267 = .ok (.aload_n 0, 1) := by decide +kernel
theorem d_MO_init_268 : decode b_MO_init 268 = .ok (.bipush 32, 2) := by decide +kernel
theorem d_MO_init_270 : decode b_MO_init 270 = .ok (.newarray .int, 2) := by decide +kernel
theorem d_MO_init_272 : decode b_MO_init 272 = .ok (.putfield 110, 3) := by decide +kernel
theorem d_MO_init_275 : decode b_MO_init 275 = .ok (.aload_n 0, 1) := by decide +kernel
theorem d_MO_init_276 : decode b_MO_init 276 = .ok (.bipush 8, 2) := by decide +kernel
theorem d_MO_init_278 : decode b_MO_init 278 = .ok (.newarray .int, 2) := by decide +kernel
theorem d_MO_init_280 : decode b_MO_init 280 = .ok (.putfield 113, 3) := by decide +kernel
theorem d_MO_init_283 : decode b_MO_init 283 = .ok (.aload_n 0, 1) := by decide +kernel
theorem d_MO_init_284 : decode b_MO_init 284 = .ok (.bipush 64, 2) := by decide +kernel
theorem d_MO_init_286 : decode b_MO_init 286 = .ok (.newarray .int, 2) := by decide +kernel
theorem d_MO_init_288 : decode b_MO_init 288 = .ok (.putfield 116, 3) := by decide +kernel
theorem d_MO_init_291 : decode b_MO_init 291 = .ok (.aload_n 0, 1) := by decide +kernel
theorem d_MO_init_292 : decode b_MO_init 292 = .ok (.bipush 64, 2) := by decide +kernel
theorem d_MO_init_294 : decode b_MO_init 294 = .ok (.newarray .int, 2) := by decide +kernel
theorem d_MO_init_296 : decode b_MO_init 296 = .ok (.putfield 119, 3) := by decide +kernel
theorem d_MO_init_299 : decode b_MO_init 299 = .ok (.aload_n 0, 1) := by decide +kernel
theorem d_MO_init_300 : decode b_MO_init 300 = .ok (.bipush 64, 2) := by decide +kernel
theorem d_MO_init_302 : decode b_MO_init 302 = .ok (.newarray .int, 2) := by decide +kernel
theorem d_MO_init_304 : decode b_MO_init 304 = .ok (.putfield 122, 3) := by decide +kernel
theorem d_MO_init_307 : decode b_MO_init 307 = .ok (.aload_n 0, 1) := by decide +kernel
theorem d_MO_init_308 : decode b_MO_init 308 = .ok (.bipush 64, 2) := by decide +kernel
theorem d_MO_init_310 : decode b_MO_init 310 = .ok (.newarray .int, 2) := by decide +kernel
theorem d_MO_init_312 : decode b_MO_init 312 = .ok (.putfield 125, 3) := by decide +kernel
theorem d_MO_init_315 : decode b_MO_init 315 = .ok (.aload_n 0, 1) := by decide +kernel
theorem d_MO_init_316 : decode b_MO_init 316 = .ok (.bipush 64, 2) := by decide +kernel
theorem d_MO_init_318 : decode b_MO_init 318 = .ok (.newarray .int, 2) := by decide +kernel
theorem d_MO_init_320 : decode b_MO_init 320 = .ok (.putfield 128, 3) := by decide +kernel
theorem d_MO_init_323 : decode b_MO_init 323 = .ok (.aload_n 0, 1) := by decide +kernel
theorem d_MO_init_324 : decode b_MO_init 324 = .ok (.bipush 64, 2) := by decide +kernel
theorem d_MO_init_326 : decode b_MO_init 326 = .ok (.newarray .int, 2) := by decide +kernel
theorem d_MO_init_328 : decode b_MO_init 328 = .ok (.putfield 131, 3) := by decide +kernel
theorem d_MO_init_331 : decode b_MO_init 331 = .ok (.aload_n 0, 1) := by decide +kernel
theorem d_MO_init_332 : decode b_MO_init 332 = .ok (.bipush 64, 2) := by decide +kernel
theorem d_MO_init_334 : decode b_MO_init 334 = .ok (.newarray .int, 2) := by decide +kernel
theorem d_MO_init_336 : decode b_MO_init 336 = .ok (.putfield 134, 3) := by decide +kernel
theorem d_MO_init_339 : decode b_MO_init 339 = .ok (.aload_n 0, 1) := by decide +kernel
theorem d_MO_init_340 : decode b_MO_init 340 = .ok (.bipush 64, 2) := by decide +kernel
theorem d_MO_init_342 : decode b_MO_init 342 = .ok (.newarray .int, 2) := by decide +kernel
theorem d_MO_init_344 : decode b_MO_init 344 = .ok (.putfield 137, 3) := by decide +kernel
theorem d_MO_init_347 : decode b_MO_init 347 = .ok (.aload_n 0, 1) := by decide +kernel
theorem d_MO_init_348 : decode b_MO_init 348 = .ok (.bipush 16, 2) := by decide +kernel
theorem d_MO_init_350 : decode b_MO_init 350 = .ok (.newarray .int, 2) := by decide +kernel
theorem d_MO_init_352 : decode b_MO_init 352 = .ok (.putfield 140, 3) := by decide +kernel
theorem d_MO_init_355 : decode b_MO_init 355 = .ok (.aload_n 0, 1) := by decide +kernel
theorem d_MO_init_356 : decode b_MO_init 356 = .ok (.bipush 16, 2) := by decide +kernel
theorem d_MO_init_358 : decode b_MO_init 358 = .ok (.newarray .int, 2) := by decide +kernel
theorem d_MO_init_360 : decode b_MO_init 360 = .ok (.putfield 143, 3) := by decide +kernel
theorem d_MO_init_363 : decode b_MO_init 363 = .ok (.aload_n 0, 1) := by decide +kernel
theorem d_MO_init_364 : decode b_MO_init 364 = .ok (.bipush 16, 2) := by decide +kernel
theorem d_MO_init_366 : decode b_MO_init 366 = .ok (.newarray .int, 2) := by decide +kernel
theorem d_MO_init_368 : decode b_MO_init 368 = .ok (.putfield 146, 3) := by decide +kernel
theorem d_MO_init_371 : decode b_MO_init 371 = .ok (.aload_n 0, 1) := by decide +kernel
theorem d_MO_init_372 : decode b_MO_init 372 = .ok (.bipush 16, 2) := by decide +kernel
theorem d_MO_init_374 : decode b_MO_init 374 = .ok (.newarray .int, 2) := by decide +kernel
theorem d_MO_init_376 : decode b_MO_init 376 = .ok (.putfield 149, 3) := by decide +kernel
theorem d_MO_init_379 : decode b_MO_init 379 = .ok (.aload_n 0, 1) := by decide +kernel
theorem d_MO_init_380 : decode b_MO_init 380 = .ok (.bipush 16, 2) := by decide +kernel
theorem d_MO_init_382 : decode b_MO_init 382 = .ok (.newarray .int, 2) := by decide +kernel
theorem d_MO_init_384 : decode b_MO_init 384 = .ok (.putfield 152, 3) := by decide +kernel
theorem d_MO_init_387 : decode b_MO_init 387 = .ok (.aload_n 0, 1) := by decide +kernel
theorem d_MO_init_388 : decode b_MO_init 388 = .ok (.bipush 16, 2) := by decide +kernel
theorem d_MO_init_390 : decode b_MO_init 390 = .ok (.newarray .int, 2) := by decide +kernel
theorem d_MO_init_392 : decode b_MO_init 392 = .ok (.putfield 155, 3) := by decide +kernel
theorem d_MO_init_395 : decode b_MO_init 395 = .ok (.aload_n 0, 1) := by decide +kernel
theorem d_MO_init_396 : decode b_MO_init 396 = .ok (.bipush 16, 2) := by decide +kernel
theorem d_MO_init_398 : decode b_MO_init 398 = .ok (.newarray .int, 2) := by decide +kernel
theorem d_MO_init_400 : decode b_MO_init 400 = .ok (.putfield 158, 3) := by decide +kernel
theorem d_MO_init_403 : decode b_MO_init 403 = .ok (.aload_n 0, 1) := by decide +kernel
theorem d_MO_init_404 : decode b_MO_init 404 = .ok (.bipush 100, 2) := by decide +kernel
theorem d_MO_init_406 : decode b_MO_init 406 = .ok (.newarray .int, 2) := by decide +kernel
theorem d_MO_init_408 : decode b_MO_init 408 = .ok (.putfield 161, 3) := by decide +kernel
theorem d_MO_init_411 : decode b_MO_init 411 = .ok (.aload_n 0, 1) := by decide +kernel
theorem d_MO_init_412 : decode b_MO_init 412 = .ok (.bipush 100, 2) := by decide +kernel
theorem d_MO_init_414 : decode b_MO_init 414 = .ok (.newarray .int, 2) := by decide +kernel
theorem d_MO_init_416 : decode b_MO_init 416 = .ok (.putfield 164, 3) := by decide +kernel
theorem d_MO_init_419 : decode b_MO_init 419 = .ok (.aload_n 0, 1) := by decide +kernel
theorem d_MO_init_420 : decode b_MO_init 420 = .ok (.bipush 100, 2) := by decide +kernel
theorem d_MO_init_422 : decode b_MO_init 422 = .ok (.newarray .int, 2) := by decide +kernel
theorem d_MO_init_424 : decode b_MO_init 424 = .ok (.putfield 167, 3) := by decide +kernel
theorem d_MO_init_427 : decode b_MO_init 427 = .ok (.aload_n 0, 1) := by decide +kernel
theorem d_MO_init_428 : decode b_MO_init 428 = .ok (.bipush 100, 2) := by decide +kernel
theorem d_MO_init_430 : decode b_MO_init 430 = .ok (.newarray .int, 2) := by decide +kernel
theorem d_MO_init_432 : decode b_MO_init 432 = .ok (.putfield 170, 3) := by decide +kernel
theorem d_MO_init_435 : decode b_MO_init 435 = .ok (.aload_n 0, 1) := by decide +kernel
theorem d_MO_init_436 : decode b_MO_init 436 = .ok (.bipush 100, 2) := by decide +kernel
theorem d_MO_init_438 : decode b_MO_init 438 = .ok (.newarray .int, 2) := by decide +kernel
theorem d_MO_init_440 : decode b_MO_init 440 = .ok (.putfield 173, 3) := by decide +kernel
theorem d_MO_init_443 : decode b_MO_init 443 = .ok (.iconst 0, 1) := by decide +kernel
theorem d_MO_init_444 : decode b_MO_init 444 = .ok (.istore_n 1, 1) := by decide +kernel
theorem d_MO_init_445 : decode b_MO_init 445 = .ok (.iload_n 1, 1) := by decide +kernel
theorem d_MO_init_446 : decode b_MO_init 446 = .ok (.bipush 8, 2) := by decide +kernel
theorem d_MO_init_448 : decode b_MO_init 448 = .ok (.if_icmp .ge 36, 3) := by decide +kernel
theorem d_MO_init_451 : decode b_MO_init 451 = .ok (.aload_n 0, 1) := by decide +kernel
theorem d_MO_init_452 : decode b_MO_init 452 = .ok (.getfield 19, 3) := by decide +kernel
theorem d_MO_init_455 : decode b_MO_init 455 = .ok (.iload_n 1, 1) := by decide +kernel
theorem d_MO_init_456 : decode b_MO_init 456 = .ok (.iconst 1, 1) := by decide +kernel
theorem d_MO_init_457 : decode b_MO_init 457 = .ok (.iastore, 1) := by decide +kernel
theorem d_MO_init_458 : decode b_MO_init 458 = .ok (.aload_n 0, 1) := by decide +kernel
theorem d_MO_init_459 : decode b_MO_init 459 = .ok (.getfield 16, 3) := by decide +kernel
theorem d_MO_init_462 : decode b_MO_init 462 = .ok (.iload_n 1, 1) := by decide +kernel
theorem d_MO_init_463 : decode b_MO_init 463 = .ok (.iconst (-1), 1) := by decide +kernel
theorem d_MO_init_464 : decode b_MO_init 464 = .ok (.iastore, 1) := by decide +kernel
theorem d_MO_init_465 : decode b_MO_init 465 = .ok (.aload_n 0, 1) := by decide +kernel
theorem d_MO_init_466 : decode b_MO_init 466 = .ok (.iload_n 1, 1) := by decide +kernel
theorem d_MO_init_467 : decode b_MO_init 467 = .ok (.invokevirtual 176, 3) := by decide +kernel
theorem d_MO_init_470 : decode b_MO_init 470 = .ok (.aload_n 0, 1) := by decide +kernel
theorem d_MO_init_471 : decode b_MO_init 471 = .ok (.getfield 113, 3) := by decide +kernel
theorem d_MO_init_474 : decode b_MO_init 474 = .ok (.iload_n 1, 1) := by decide +kernel
theorem d_MO_init_475 : decode b_MO_init 475 = .ok (.ldc 180, 2) := by decide +kernel
theorem d_MO_init_477 : decode b_MO_init 477 = .ok (.iastore, 1) := by decide +kernel
theorem d_MO_init_478 : decode b_MO_init 478 = .ok (.iinc 1 1, 3) := by decide +kernel
theorem d_MO_init_481 : decode b_MO_init 481 = .ok (.goto (-36), 3) := by decide +kernel
theorem d_MO_init_484 : decode b_MO_init 484 = .ok (.return_, 1) := by decide +kernel
theorem d_MO_thrown_0 : decode b_MO_thrown 0 = .ok (.aload_n 0, 1) := by decide +kernel
theorem d_MO_thrown_1 : decode b_MO_thrown 1 = .ok (.getfield 181, 3) := by decide +kernel
theorem d_MO_thrown_4 : decode b_MO_thrown 4 = .ok (.ireturn, 1) := by decide +kernel
theorem d_MO_isDevice_0 : decode b_MO_isDevice 0 = .ok (.iload_n 0, 1) := by decide +kernel
theorem d_MO_isDevice_1 : decode b_MO_isDevice 1 = .ok (.ifCond .lt 13, 3) := by decide +kernel
theorem d_MO_isDevice_4 : decode b_MO_isDevice 4 = .ok (.iload_n 0, 1) := by decide +kernel
theorem d_MO_isDevice_5 : decode b_MO_isDevice 5 = .ok (.bipush 8, 2) := by decide +kernel
theorem d_MO_isDevice_7 : decode b_MO_isDevice 7 = .ok (.if_icmp .ge 7, 3) := by decide +kernel
theorem d_MO_isDevice_10 : decode b_MO_isDevice 10 = .ok (.iconst 1, 1) := by decide +kernel
theorem d_MO_isDevice_11 : decode b_MO_isDevice 11 = .ok (.goto 4, 3) := by decide +kernel
theorem d_MO_isDevice_14 : decode b_MO_isDevice 14 = .ok (.iconst 0, 1) := by decide +kernel
theorem d_MO_isDevice_15 : decode b_MO_isDevice 15 = .ok (.ireturn, 1) := by decide +kernel
theorem d_MO_isBed_0 : decode b_MO_isBed 0 = .ok (.iload_n 0, 1) := by decide +kernel
theorem d_MO_isBed_1 : decode b_MO_isBed 1 = .ok (.ifCond .lt 12, 3) := by decide +kernel
theorem d_MO_isBed_4 : decode b_MO_isBed 4 = .ok (.iload_n 0, 1) := by decide +kernel
theorem d_MO_isBed_5 : decode b_MO_isBed 5 = .ok (.iconst 4, 1) := by decide +kernel
theorem d_MO_isBed_6 : decode b_MO_isBed 6 = .ok (.if_icmp .ge 7, 3) := by decide +kernel
theorem d_MO_isBed_9 : decode b_MO_isBed 9 = .ok (.iconst 1, 1) := by decide +kernel
theorem d_MO_isBed_10 : decode b_MO_isBed 10 = .ok (.goto 4, 3) := by decide +kernel
theorem d_MO_isBed_13 : decode b_MO_isBed 13 = .ok (.iconst 0, 1) := by decide +kernel
theorem d_MO_isBed_14 : decode b_MO_isBed 14 = .ok (.ireturn, 1) := by decide +kernel
theorem d_MO_isAt_0 : decode b_MO_isAt 0 = .ok (.iload_n 1, 1) := by decide +kernel
theorem d_MO_isAt_1 : decode b_MO_isAt 1 = .ok (.invokestatic 185, 3) := by decide +kernel
theorem d_MO_isAt_4 : decode b_MO_isAt 4 = .ok (.ifCond .eq 28, 3) := by decide +kernel
theorem d_MO_isAt_7 : decode b_MO_isAt 7 = .ok (.aload_n 0, 1) := by decide +kernel
theorem d_MO_isAt_8 : decode b_MO_isAt 8 = .ok (.getfield 13, 3) := by decide +kernel
theorem d_MO_isAt_11 : decode b_MO_isAt 11 = .ok (.iload_n 1, 1) := by decide +kernel
theorem d_MO_isAt_12 : decode b_MO_isAt 12 = .ok (.invokestatic 185, 3) := by decide +kernel
theorem d_MO_isAt_15 : decode b_MO_isAt 15 = .ok (.ifCond .eq 7, 3) := by decide +kernel
theorem d_MO_isAt_18 : decode b_MO_isAt 18 = .ok (.iload_n 1, 1) := by decide +kernel
theorem d_MO_isAt_19 : decode b_MO_isAt 19 = .ok (.goto 4, 3) := by decide +kernel
theorem d_MO_isAt_22 : decode b_MO_isAt 22 = .ok (.iconst 0, 1) := by decide +kernel
theorem d_MO_isAt_23 : decode b_MO_isAt 23 = .ok (.iaload, 1) := by decide +kernel
theorem d_MO_isAt_24 : decode b_MO_isAt 24 = .ok (.iload_n 2, 1) := by decide +kernel
theorem d_MO_isAt_25 : decode b_MO_isAt 25 = .ok (.if_icmp .ne 7, 3) := by decide +kernel
theorem d_MO_isAt_28 : decode b_MO_isAt 28 = .ok (.iconst 1, 1) := by decide +kernel
theorem d_MO_isAt_29 : decode b_MO_isAt 29 = .ok (.goto 4, 3) := by decide +kernel
theorem d_MO_isAt_32 : decode b_MO_isAt 32 = .ok (.iconst 0, 1) := by decide +kernel
theorem d_MO_isAt_33 : decode b_MO_isAt 33 = .ok (.ireturn, 1) := by decide +kernel
theorem d_MO_isChannel_0 : decode b_MO_isChannel 0 = .ok (.iload_n 1, 1) := by decide +kernel
theorem d_MO_isChannel_1 : decode b_MO_isChannel 1 = .ok (.invokestatic 185, 3) := by decide +kernel
theorem d_MO_isChannel_4 : decode b_MO_isChannel 4 = .ok (.ifCond .eq 32, 3) := by decide +kernel
theorem d_MO_isChannel_7 : decode b_MO_isChannel 7 = .ok (.iload_n 2, 1) := by decide +kernel
theorem d_MO_isChannel_8 : decode b_MO_isChannel 8 = .ok (.ifCond .lt 28, 3) := by decide +kernel
theorem d_MO_isChannel_11 : decode b_MO_isChannel 11 = .ok (.iload_n 2, 1) := by decide +kernel
theorem d_MO_isChannel_12 : decode b_MO_isChannel 12 = .ok (.aload_n 0, 1) := by decide +kernel
theorem d_MO_isChannel_13 : decode b_MO_isChannel 13 = .ok (.getfield 22, 3) := by decide +kernel
theorem d_MO_isChannel_16 : decode b_MO_isChannel 16 = .ok (.iload_n 1, 1) := by decide +kernel
theorem d_MO_isChannel_17 : decode b_MO_isChannel 17 = .ok (.invokestatic 185, 3) := by decide +kernel
theorem d_MO_isChannel_20 : decode b_MO_isChannel 20 = .ok (.ifCond .eq 7, 3) := by decide +kernel
theorem d_MO_isChannel_23 : decode b_MO_isChannel 23 = .ok (.iload_n 1, 1) := by decide +kernel
theorem d_MO_isChannel_24 : decode b_MO_isChannel 24 = .ok (.goto 4, 3) := by decide +kernel
theorem d_MO_isChannel_27 : decode b_MO_isChannel 27 = .ok (.iconst 0, 1) := by decide +kernel
theorem d_MO_isChannel_28 : decode b_MO_isChannel 28 = .ok (.iaload, 1) := by decide +kernel
theorem d_MO_isChannel_29 : decode b_MO_isChannel 29 = .ok (.if_icmp .ge 7, 3) := by decide +kernel
theorem d_MO_isChannel_32 : decode b_MO_isChannel 32 = .ok (.iconst 1, 1) := by decide +kernel
theorem d_MO_isChannel_33 : decode b_MO_isChannel 33 = .ok (.goto 4, 3) := by decide +kernel
theorem d_MO_isChannel_36 : decode b_MO_isChannel 36 = .ok (.iconst 0, 1) := by decide +kernel
theorem d_MO_isChannel_37 : decode b_MO_isChannel 37 = .ok (.ireturn, 1) := by decide +kernel
theorem d_MO_isNumber_0 : decode b_MO_isNumber 0 = .ok (.iload_n 0, 1) := by decide +kernel
theorem d_MO_isNumber_1 : decode b_MO_isNumber 1 = .ok (.ldc 189, 2) := by decide +kernel
theorem d_MO_isNumber_3 : decode b_MO_isNumber 3 = .ok (.if_icmp .lt 13, 3) := by decide +kernel
theorem d_MO_isNumber_6 : decode b_MO_isNumber 6 = .ok (.iload_n 0, 1) := by decide +kernel
theorem d_MO_isNumber_7 : decode b_MO_isNumber 7 = .ok (.ldc 190, 2) := by decide +kernel
theorem d_MO_isNumber_9 : decode b_MO_isNumber 9 = .ok (.if_icmp .gt 7, 3) := by decide +kernel
theorem d_MO_isNumber_12 : decode b_MO_isNumber 12 = .ok (.iconst 1, 1) := by decide +kernel
theorem d_MO_isNumber_13 : decode b_MO_isNumber 13 = .ok (.goto 4, 3) := by decide +kernel
theorem d_MO_isNumber_16 : decode b_MO_isNumber 16 = .ok (.iconst 0, 1) := by decide +kernel
theorem d_MO_isNumber_17 : decode b_MO_isNumber 17 = .ok (.ireturn, 1) := by decide +kernel
theorem d_MO_isRange_0 : decode b_MO_isRange 0 = .ok (.iload_n 0, 1) := by decide +kernel
theorem d_MO_isRange_1 : decode b_MO_isRange 1 = .ok (.invokestatic 191, 3) := by decide +kernel
theorem d_MO_isRange_4 : decode b_MO_isRange 4 = .ok (.ifCond .eq 30, 3) := by decide +kernel
theorem d_MO_isRange_7 : decode b_MO_isRange 7 = .ok (.iload_n 1, 1) := by decide +kernel
theorem d_MO_isRange_8 : decode b_MO_isRange 8 = .ok (.invokestatic 191, 3) := by decide +kernel
theorem d_MO_isRange_11 : decode b_MO_isRange 11 = .ok (.ifCond .eq 23, 3) := by decide +kernel
theorem d_MO_isRange_14 : decode b_MO_isRange 14 = .ok (.iload_n 0, 1) := by decide +kernel
theorem d_MO_isRange_15 : decode b_MO_isRange 15 = .ok (.iload_n 1, 1) := by decide +kernel
theorem d_MO_isRange_16 : decode b_MO_isRange 16 = .ok (.if_icmp .gt 18, 3) := by decide +kernel
theorem d_MO_isRange_19 : decode b_MO_isRange 19 = .ok (.iload_n 2, 1) := by decide +kernel
theorem d_MO_isRange_20 : decode b_MO_isRange 20 = .ok (.iconst 1, 1) := by decide +kernel
theorem d_MO_isRange_21 : decode b_MO_isRange 21 = .ok (.if_icmp .lt 13, 3) := by decide +kernel
theorem d_MO_isRange_24 : decode b_MO_isRange 24 = .ok (.iload_n 2, 1) := by decide +kernel
theorem d_MO_isRange_25 : decode b_MO_isRange 25 = .ok (.ldc 190, 2) := by decide +kernel
theorem d_MO_isRange_27 : decode b_MO_isRange 27 = .ok (.if_icmp .gt 7, 3) := by decide +kernel
theorem d_MO_isRange_30 : decode b_MO_isRange 30 = .ok (.iconst 1, 1) := by decide +kernel
theorem d_MO_isRange_31 : decode b_MO_isRange 31 = .ok (.goto 4, 3) := by decide +kernel
theorem d_MO_isRange_34 : decode b_MO_isRange 34 = .ok (.iconst 0, 1) := by decide +kernel
theorem d_MO_isRange_35 : decode b_MO_isRange 35 = .ok (.ireturn, 1) := by decide +kernel
theorem d_MO_fits_0 : decode b_MO_fits 0 = .ok (.iload_n 0, 1) := by decide +kernel
theorem d_MO_fits_1 : decode b_MO_fits 1 = .ok (.iload_n 1, 1) := by decide +kernel
theorem d_MO_fits_2 : decode b_MO_fits 2 = .ok (.if_icmp .lt 20, 3) := by decide +kernel
theorem d_MO_fits_5 : decode b_MO_fits 5 = .ok (.iload_n 0, 1) := by decide +kernel
theorem d_MO_fits_6 : decode b_MO_fits 6 = .ok (.iload_n 2, 1) := by decide +kernel
theorem d_MO_fits_7 : decode b_MO_fits 7 = .ok (.if_icmp .gt 15, 3) := by decide +kernel
theorem d_MO_fits_10 : decode b_MO_fits 10 = .ok (.iload_n 0, 1) := by decide +kernel
theorem d_MO_fits_11 : decode b_MO_fits 11 = .ok (.iload_n 1, 1) := by decide +kernel
theorem d_MO_fits_12 : decode b_MO_fits 12 = .ok (.isub, 1) := by decide +kernel
theorem d_MO_fits_13 : decode b_MO_fits 13 = .ok (.iload_n 3, 1) := by decide +kernel
theorem d_MO_fits_14 : decode b_MO_fits 14 = .ok (.irem, 1) := by decide +kernel
theorem d_MO_fits_15 : decode b_MO_fits 15 = .ok (.ifCond .ne 7, 3) := by decide +kernel
theorem d_MO_fits_18 : decode b_MO_fits 18 = .ok (.iconst 1, 1) := by decide +kernel
theorem d_MO_fits_19 : decode b_MO_fits 19 = .ok (.goto 4, 3) := by decide +kernel
theorem d_MO_fits_22 : decode b_MO_fits 22 = .ok (.iconst 0, 1) := by decide +kernel
theorem d_MO_fits_23 : decode b_MO_fits 23 = .ok (.ireturn, 1) := by decide +kernel
theorem d_MO_forget_0 : decode b_MO_forget 0 = .ok (.aload_n 0, 1) := by decide +kernel
theorem d_MO_forget_1 : decode b_MO_forget 1 = .ok (.getfield 25, 3) := by decide +kernel
theorem d_MO_forget_4 : decode b_MO_forget 4 = .ok (.iload_n 1, 1) := by decide +kernel
theorem d_MO_forget_5 : decode b_MO_forget 5 = .ok (.iconst 0, 1) := by decide +kernel
theorem d_MO_forget_6 : decode b_MO_forget 6 = .ok (.iastore, 1) := by decide +kernel
theorem d_MO_forget_7 : decode b_MO_forget 7 = .ok (.aload_n 0, 1) := by decide +kernel
theorem d_MO_forget_8 : decode b_MO_forget 8 = .ok (.getfield 28, 3) := by decide +kernel
theorem d_MO_forget_11 : decode b_MO_forget 11 = .ok (.iload_n 1, 1) := by decide +kernel
theorem d_MO_forget_12 : decode b_MO_forget 12 = .ok (.iconst 0, 1) := by decide +kernel
theorem d_MO_forget_13 : decode b_MO_forget 13 = .ok (.bastore, 1) := by decide +kernel
theorem d_MO_forget_14 : decode b_MO_forget 14 = .ok (.aload_n 0, 1) := by decide +kernel
theorem d_MO_forget_15 : decode b_MO_forget 15 = .ok (.getfield 47, 3) := by decide +kernel
theorem d_MO_forget_18 : decode b_MO_forget 18 = .ok (.iload_n 1, 1) := by decide +kernel
theorem d_MO_forget_19 : decode b_MO_forget 19 = .ok (.iconst (-1), 1) := by decide +kernel
theorem d_MO_forget_20 : decode b_MO_forget 20 = .ok (.iastore, 1) := by decide +kernel
theorem d_MO_forget_21 : decode b_MO_forget 21 = .ok (.aload_n 0, 1) := by decide +kernel
theorem d_MO_forget_22 : decode b_MO_forget 22 = .ok (.getfield 50, 3) := by decide +kernel
theorem d_MO_forget_25 : decode b_MO_forget 25 = .ok (.iload_n 1, 1) := by decide +kernel
theorem d_MO_forget_26 : decode b_MO_forget 26 = .ok (.ldc 180, 2) := by decide +kernel
theorem d_MO_forget_28 : decode b_MO_forget 28 = .ok (.iastore, 1) := by decide +kernel
theorem d_MO_forget_29 : decode b_MO_forget 29 = .ok (.aload_n 0, 1) := by decide +kernel
theorem d_MO_forget_30 : decode b_MO_forget 30 = .ok (.getfield 53, 3) := by decide +kernel
theorem d_MO_forget_33 : decode b_MO_forget 33 = .ok (.iload_n 1, 1) := by decide +kernel
theorem d_MO_forget_34 : decode b_MO_forget 34 = .ok (.ldc 180, 2) := by decide +kernel
theorem d_MO_forget_36 : decode b_MO_forget 36 = .ok (.iastore, 1) := by decide +kernel
theorem d_MO_forget_37 : decode b_MO_forget 37 = .ok (.iconst 4, 1) := by decide +kernel
theorem d_MO_forget_38 : decode b_MO_forget 38 = .ok (.iload_n 1, 1) := by decide +kernel
theorem d_MO_forget_39 : decode b_MO_forget 39 = .ok (.imul, 1) := by decide +kernel
theorem d_MO_forget_40 : decode b_MO_forget 40 = .ok (.istore_n 2, 1) := by decide +kernel
theorem d_MO_forget_41 : decode b_MO_forget 41 = .ok (.iload_n 2, 1) := by decide +kernel
theorem d_MO_forget_42 : decode b_MO_forget 42 = .ok (.iconst 4, 1) := by decide +kernel
theorem d_MO_forget_43 : decode b_MO_forget 43 = .ok (.iload_n 1, 1) := by decide +kernel
theorem d_MO_forget_44 : decode b_MO_forget 44 = .ok (.imul, 1) := by decide +kernel
theorem d_MO_forget_45 : decode b_MO_forget 45 = .ok (.iconst 4, 1) := by decide +kernel
theorem d_MO_forget_46 : decode b_MO_forget 46 = .ok (.iadd, 1) := by decide +kernel
theorem d_MO_forget_47 : decode b_MO_forget 47 = .ok (.if_icmp .ge 60, 3) := by decide +kernel
theorem d_MO_forget_50 : decode b_MO_forget 50 = .ok (.aload_n 0, 1) := by decide +kernel
theorem d_MO_forget_51 : decode b_MO_forget 51 = .ok (.getfield 77, 3) := by decide +kernel
theorem d_MO_forget_54 : decode b_MO_forget 54 = .ok (.iload_n 2, 1) := by decide +kernel
theorem d_MO_forget_55 : decode b_MO_forget 55 = .ok (.iconst 0, 1) := by decide +kernel
theorem d_MO_forget_56 : decode b_MO_forget 56 = .ok (.bastore, 1) := by decide +kernel
theorem d_MO_forget_57 : decode b_MO_forget 57 = .ok (.aload_n 0, 1) := by decide +kernel
theorem d_MO_forget_58 : decode b_MO_forget 58 = .ok (.getfield 80, 3) := by decide +kernel
theorem d_MO_forget_61 : decode b_MO_forget 61 = .ok (.iload_n 2, 1) := by decide +kernel
theorem d_MO_forget_62 : decode b_MO_forget 62 = .ok (.iconst 0, 1) := by decide +kernel
theorem d_MO_forget_63 : decode b_MO_forget 63 = .ok (.bastore, 1) := by decide +kernel
theorem d_MO_forget_64 : decode b_MO_forget 64 = .ok (.aload_n 0, 1) := by decide +kernel
theorem d_MO_forget_65 : decode b_MO_forget 65 = .ok (.getfield 98, 3) := by decide +kernel
theorem d_MO_forget_68 : decode b_MO_forget 68 = .ok (.iload_n 2, 1) := by decide +kernel
theorem d_MO_forget_69 : decode b_MO_forget 69 = .ok (.iconst 0, 1) := by decide +kernel
theorem d_MO_forget_70 : decode b_MO_forget 70 = .ok (.bastore, 1) := by decide +kernel
theorem d_MO_forget_71 : decode b_MO_forget 71 = .ok (.aload_n 0, 1) := by decide +kernel
theorem d_MO_forget_72 : decode b_MO_forget 72 = .ok (.getfield 101, 3) := by decide +kernel
theorem d_MO_forget_75 : decode b_MO_forget 75 = .ok (.iload_n 2, 1) := by decide +kernel
theorem d_MO_forget_76 : decode b_MO_forget 76 = .ok (.iconst 0, 1) := by decide +kernel
theorem d_MO_forget_77 : decode b_MO_forget 77 = .ok (.bastore, 1) := by decide +kernel
theorem d_MO_forget_78 : decode b_MO_forget 78 = .ok (.aload_n 0, 1) := by decide +kernel
theorem d_MO_forget_79 : decode b_MO_forget 79 = .ok (.getfield 95, 3) := by decide +kernel
theorem d_MO_forget_82 : decode b_MO_forget 82 = .ok (.iload_n 2, 1) := by decide +kernel
theorem d_MO_forget_83 : decode b_MO_forget 83 = .ok (.ldc 180, 2) := by decide +kernel
theorem d_MO_forget_85 : decode b_MO_forget 85 = .ok (.iastore, 1) := by decide +kernel
theorem d_MO_forget_86 : decode b_MO_forget 86 = .ok (.aload_n 0, 1) := by decide +kernel
theorem d_MO_forget_87 : decode b_MO_forget 87 = .ok (.getfield 92, 3) := by decide +kernel
theorem d_MO_forget_90 : decode b_MO_forget 90 = .ok (.iload_n 2, 1) := by decide +kernel
theorem d_MO_forget_91 : decode b_MO_forget 91 = .ok (.iconst (-1), 1) := by decide +kernel
theorem d_MO_forget_92 : decode b_MO_forget 92 = .ok (.iastore, 1) := by decide +kernel
theorem d_MO_forget_93 : decode b_MO_forget 93 = .ok (.aload_n 0, 1) := by decide +kernel
theorem d_MO_forget_94 : decode b_MO_forget 94 = .ok (.getfield 89, 3) := by decide +kernel
theorem d_MO_forget_97 : decode b_MO_forget 97 = .ok (.iload_n 2, 1) := by decide +kernel
theorem d_MO_forget_98 : decode b_MO_forget 98 = .ok (.ldc 180, 2) := by decide +kernel
theorem d_MO_forget_100 : decode b_MO_forget 100 = .ok (.iastore, 1) := by decide +kernel
theorem d_MO_forget_101 : decode b_MO_forget 101 = .ok (.iinc 2 1, 3) := by decide +kernel
theorem d_MO_forget_104 : decode b_MO_forget 104 = .ok (.goto (-63), 3) := by decide +kernel
theorem d_MO_forget_107 : decode b_MO_forget 107 = .ok (.return_, 1) := by decide +kernel
theorem d_MO_device_0 : decode b_MO_device 0 = .ok (.aload_n 0, 1) := by decide +kernel
theorem d_MO_device_1 : decode b_MO_device 1 = .ok (.iconst 0, 1) := by decide +kernel
theorem d_MO_device_2 : decode b_MO_device 2 = .ok (.putfield 181, 3) := by decide +kernel
theorem d_MO_device_5 : decode b_MO_device 5 = .ok (.iload_n 1, 1) := by decide +kernel
theorem d_MO_device_6 : decode b_MO_device 6 = .ok (.invokestatic 185, 3) := by decide +kernel
theorem d_MO_device_9 : decode b_MO_device 9 = .ok (.ifCond .eq 20, 3) := by decide +kernel
theorem d_MO_device_12 : decode b_MO_device 12 = .ok (.iload_n 2, 1) := by decide +kernel
theorem d_MO_device_13 : decode b_MO_device 13 = .ok (.invokestatic 194, 3) := by decide +kernel
theorem d_MO_device_16 : decode b_MO_device 16 = .ok (.ifCond .eq 13, 3) := by decide +kernel
theorem d_MO_device_19 : decode b_MO_device 19 = .ok (.aload_n 0, 1) := by decide +kernel
theorem d_MO_device_20 : decode b_MO_device 20 = .ok (.getfield 13, 3) := by decide +kernel
theorem d_MO_device_23 : decode b_MO_device 23 = .ok (.iload_n 1, 1) := by decide +kernel
theorem d_MO_device_24 : decode b_MO_device 24 = .ok (.iaload, 1) := by decide +kernel
theorem d_MO_device_25 : decode b_MO_device 25 = .ok (.iconst 2, 1) := by decide +kernel
theorem d_MO_device_26 : decode b_MO_device 26 = .ok (.if_icmp .ne 5, 3) := by decide +kernel
theorem d_MO_device_29 : decode b_MO_device 29 = .ok (.iconst 0, 1) := by decide +kernel
theorem d_MO_device_30 : decode b_MO_device 30 = .ok (.ireturn, 1) := by decide +kernel
theorem d_MO_device_31 : decode b_MO_device 31 = .ok (.aload_n 0, 1) := by decide +kernel
theorem d_MO_device_32 : decode b_MO_device 32 = .ok (.getfield 13, 3) := by decide +kernel
theorem d_MO_device_35 : decode b_MO_device 35 = .ok (.iload_n 1, 1) := by decide +kernel
theorem d_MO_device_36 : decode b_MO_device 36 = .ok (.iconst 1, 1) := by decide +kernel
theorem d_MO_device_37 : decode b_MO_device 37 = .ok (.iastore, 1) := by decide +kernel
theorem d_MO_device_38 : decode b_MO_device 38 = .ok (.aload_n 0, 1) := by decide +kernel
theorem d_MO_device_39 : decode b_MO_device 39 = .ok (.getfield 16, 3) := by decide +kernel
theorem d_MO_device_42 : decode b_MO_device 42 = .ok (.iload_n 1, 1) := by decide +kernel
theorem d_MO_device_43 : decode b_MO_device 43 = .ok (.iload_n 2, 1) := by decide +kernel
theorem d_MO_device_44 : decode b_MO_device 44 = .ok (.iastore, 1) := by decide +kernel
theorem d_MO_device_45 : decode b_MO_device 45 = .ok (.aload_n 0, 1) := by decide +kernel
theorem d_MO_device_46 : decode b_MO_device 46 = .ok (.getfield 22, 3) := by decide +kernel
theorem d_MO_device_49 : decode b_MO_device 49 = .ok (.iload_n 1, 1) := by decide +kernel
theorem d_MO_device_50 : decode b_MO_device 50 = .ok (.iconst 0, 1) := by decide +kernel
theorem d_MO_device_51 : decode b_MO_device 51 = .ok (.iastore, 1) := by decide +kernel
theorem d_MO_device_52 : decode b_MO_device 52 = .ok (.aload_n 0, 1) := by decide +kernel
theorem d_MO_device_53 : decode b_MO_device 53 = .ok (.getfield 32, 3) := by decide +kernel
theorem d_MO_device_56 : decode b_MO_device 56 = .ok (.iload_n 1, 1) := by decide +kernel
theorem d_MO_device_57 : decode b_MO_device 57 = .ok (.iconst 0, 1) := by decide +kernel
theorem d_MO_device_58 : decode b_MO_device 58 = .ok (.bastore, 1) := by decide +kernel
theorem d_MO_device_59 : decode b_MO_device 59 = .ok (.iconst 4, 1) := by decide +kernel
theorem d_MO_device_60 : decode b_MO_device 60 = .ok (.iload_n 1, 1) := by decide +kernel
theorem d_MO_device_61 : decode b_MO_device 61 = .ok (.imul, 1) := by decide +kernel
theorem d_MO_device_62 : decode b_MO_device 62 = .ok (.istore_n 3, 1) := by decide +kernel
theorem d_MO_device_63 : decode b_MO_device 63 = .ok (.iload_n 3, 1) := by decide +kernel
theorem d_MO_device_64 : decode b_MO_device 64 = .ok (.iconst 4, 1) := by decide +kernel
theorem d_MO_device_65 : decode b_MO_device 65 = .ok (.iload_n 1, 1) := by decide +kernel
theorem d_MO_device_66 : decode b_MO_device 66 = .ok (.imul, 1) := by decide +kernel
theorem d_MO_device_67 : decode b_MO_device 67 = .ok (.iconst 4, 1) := by decide +kernel
theorem d_MO_device_68 : decode b_MO_device 68 = .ok (.iadd, 1) := by decide +kernel
theorem d_MO_device_69 : decode b_MO_device 69 = .ok (.if_icmp .ge 16, 3) := by decide +kernel
theorem d_MO_device_72 : decode b_MO_device 72 = .ok (.aload_n 0, 1) := by decide +kernel
theorem d_MO_device_73 : decode b_MO_device 73 = .ok (.getfield 68, 3) := by decide +kernel
theorem d_MO_device_76 : decode b_MO_device 76 = .ok (.iload_n 3, 1) := by decide +kernel
theorem d_MO_device_77 : decode b_MO_device 77 = .ok (.iconst 0, 1) := by decide +kernel
theorem d_MO_device_78 : decode b_MO_device 78 = .ok (.iastore, 1) := by decide +kernel
theorem d_MO_device_79 : decode b_MO_device 79 = .ok (.iinc 3 1, 3) := by decide +kernel
theorem d_MO_device_82 : decode b_MO_device 82 = .ok (.goto (-19), 3) := by decide +kernel
theorem d_MO_device_85 : decode b_MO_device 85 = .ok (.iconst 1, 1) := by decide +kernel
theorem d_MO_device_86 : decode b_MO_device 86 = .ok (.ireturn, 1) := by decide +kernel
theorem d_MO_channel_0 : decode b_MO_channel 0 = .ok (.aload_n 0, 1) := by decide +kernel
theorem d_MO_channel_1 : decode b_MO_channel 1 = .ok (.iload_n 1, 1) := by decide +kernel
theorem d_MO_channel_2 : decode b_MO_channel 2 = .ok (.iconst 1, 1) := by decide +kernel
theorem d_MO_channel_3 : decode b_MO_channel 3 = .ok (.invokevirtual 197, 3) := by decide +kernel
theorem d_MO_channel_6 : decode b_MO_channel 6 = .ok (.ifCond .eq 28, 3) := by decide +kernel
theorem d_MO_channel_9 : decode b_MO_channel 9 = .ok (.iload_n 2, 1) := by decide +kernel
theorem d_MO_channel_10 : decode b_MO_channel 10 = .ok (.ifCond .lt 24, 3) := by decide +kernel
theorem d_MO_channel_13 : decode b_MO_channel 13 = .ok (.iload_n 2, 1) := by decide +kernel
theorem d_MO_channel_14 : decode b_MO_channel 14 = .ok (.bipush 16, 2) := by decide +kernel
theorem d_MO_channel_16 : decode b_MO_channel 16 = .ok (.if_icmp .ge 18, 3) := by decide +kernel
theorem d_MO_channel_19 : decode b_MO_channel 19 = .ok (.iload_n 3, 1) := by decide +kernel
theorem d_MO_channel_20 : decode b_MO_channel 20 = .ok (.iload 4, 2) := by decide +kernel
theorem d_MO_channel_22 : decode b_MO_channel 22 = .ok (.iload 5, 2) := by decide +kernel
theorem d_MO_channel_24 : decode b_MO_channel 24 = .ok (.invokestatic 201, 3) := by decide +kernel
theorem d_MO_channel_27 : decode b_MO_channel 27 = .ok (.ifCond .eq 7, 3) := by decide +kernel
theorem d_MO_channel_30 : decode b_MO_channel 30 = .ok (.iconst 1, 1) := by decide +kernel
theorem d_MO_channel_31 : decode b_MO_channel 31 = .ok (.goto 4, 3) := by decide +kernel
theorem d_MO_channel_34 : decode b_MO_channel 34 = .ok (.iconst 0, 1) := by decide +kernel
theorem d_MO_channel_35 : decode b_MO_channel 35 = .ok (.istore 6, 2) := by decide +kernel
theorem d_MO_channel_37 : decode b_MO_channel 37 = .ok (.aload_n 0, 1) := by decide +kernel
theorem d_MO_channel_38 : decode b_MO_channel 38 = .ok (.iload 6, 2) := by decide +kernel
theorem d_MO_channel_40 : decode b_MO_channel 40 = .ok (.ifCond .ne 7, 3) := by decide +kernel
theorem d_MO_channel_43 : decode b_MO_channel 43 = .ok (.iconst 1, 1) := by decide +kernel
theorem d_MO_channel_44 : decode b_MO_channel 44 = .ok (.goto 18, 3) := by decide +kernel
theorem d_MO_channel_47 : decode b_MO_channel 47 = .ok (.aload_n 0, 1) := by decide +kernel
theorem d_MO_channel_48 : decode b_MO_channel 48 = .ok (.getfield 22, 3) := by decide +kernel
theorem d_MO_channel_51 : decode b_MO_channel 51 = .ok (.iload_n 1, 1) := by decide +kernel
theorem d_MO_channel_52 : decode b_MO_channel 52 = .ok (.iaload, 1) := by decide +kernel
theorem d_MO_channel_53 : decode b_MO_channel 53 = .ok (.iconst 4, 1) := by decide +kernel
theorem d_MO_channel_54 : decode b_MO_channel 54 = .ok (.if_icmp .ne 7, 3) := by decide +kernel
theorem d_MO_channel_57 : decode b_MO_channel 57 = .ok (.iconst 2, 1) := by decide +kernel
theorem d_MO_channel_58 : decode b_MO_channel 58 = .ok (.goto 4, 3) := by decide +kernel
theorem d_MO_channel_61 : decode b_MO_channel 61 = .ok (.iconst 0, 1) := by decide +kernel
theorem d_MO_channel_62 : decode b_MO_channel 62 = .ok (.putfield 181, 3) := by decide +kernel
theorem d_MO_channel_65 : decode b_MO_channel 65 = .ok (.aload_n 0, 1) := by decide +kernel
theorem d_MO_channel_66 : decode b_MO_channel 66 = .ok (.getfield 181, 3) := by decide +kernel
theorem d_MO_channel_69 : decode b_MO_channel 69 = .ok (.ifCond .le 5, 3) := by decide +kernel
theorem d_MO_channel_72 : decode b_MO_channel 72 = .ok (.iconst 0, 1) := by decide +kernel
theorem d_MO_channel_73 : decode b_MO_channel 73 = .ok (.ireturn, 1) := by decide +kernel
theorem d_MO_channel_74 : decode b_MO_channel 74 = .ok (.iconst 4, 1) := by decide +kernel
theorem d_MO_channel_75 : decode b_MO_channel 75 = .ok (.iload_n 1, 1) := by decide +kernel
theorem d_MO_channel_76 : decode b_MO_channel 76 = .ok (.imul, 1) := by decide +kernel
theorem d_MO_channel_77 : decode b_MO_channel 77 = .ok (.aload_n 0, 1) := by decide +kernel
theorem d_MO_channel_78 : decode b_MO_channel 78 = .ok (.getfield 22, 3) := by decide +kernel
theorem d_MO_channel_81 : decode b_MO_channel 81 = .ok (.iload_n 1, 1) := by decide +kernel
theorem d_MO_channel_82 : decode b_MO_channel 82 = .ok (.iaload, 1) := by decide +kernel
theorem d_MO_channel_83 : decode b_MO_channel 83 = .ok (.iadd, 1) := by decide +kernel
theorem d_MO_channel_84 : decode b_MO_channel 84 = .ok (.istore 7, 2) := by decide +kernel
theorem d_MO_channel_86 : decode b_MO_channel 86 = .ok (.aload_n 0, 1) := by decide +kernel
theorem d_MO_channel_87 : decode b_MO_channel 87 = .ok (.getfield 56, 3) := by decide +kernel
theorem d_MO_channel_90 : decode b_MO_channel 90 = .ok (.iload 7, 2) := by decide +kernel
theorem d_MO_channel_92 : decode b_MO_channel 92 = .ok (.iload_n 2, 1) := by decide +kernel
theorem d_MO_channel_93 : decode b_MO_channel 93 = .ok (.iastore, 1) := by decide +kernel
theorem d_MO_channel_94 : decode b_MO_channel 94 = .ok (.aload_n 0, 1) := by decide +kernel
theorem d_MO_channel_95 : decode b_MO_channel 95 = .ok (.getfield 59, 3) := by decide +kernel
theorem d_MO_channel_98 : decode b_MO_channel 98 = .ok (.iload 7, 2) := by decide +kernel
theorem d_MO_channel_100 : decode b_MO_channel 100 = .ok (.iload_n 3, 1) := by decide +kernel
theorem d_MO_channel_101 : decode b_MO_channel 101 = .ok (.iastore, 1) := by decide +kernel
theorem d_MO_channel_102 : decode b_MO_channel 102 = .ok (.aload_n 0, 1) := by decide +kernel
theorem d_MO_channel_103 : decode b_MO_channel 103 = .ok (.getfield 62, 3) := by decide +kernel
theorem d_MO_channel_106 : decode b_MO_channel 106 = .ok (.iload 7, 2) := by decide +kernel
theorem d_MO_channel_108 : decode b_MO_channel 108 = .ok (.iload 4, 2) := by decide +kernel
theorem d_MO_channel_110 : decode b_MO_channel 110 = .ok (.iastore, 1) := by decide +kernel
theorem d_MO_channel_111 : decode b_MO_channel 111 = .ok (.aload_n 0, 1) := by decide +kernel
theorem d_MO_channel_112 : decode b_MO_channel 112 = .ok (.getfield 65, 3) := by decide +kernel
theorem d_MO_channel_115 : decode b_MO_channel 115 = .ok (.iload 7, 2) := by decide +kernel
theorem d_MO_channel_117 : decode b_MO_channel 117 = .ok (.iload 5, 2) := by decide +kernel
theorem d_MO_channel_119 : decode b_MO_channel 119 = .ok (.iastore, 1) := by decide +kernel
theorem d_MO_channel_120 : decode b_MO_channel 120 = .ok (.aload_n 0, 1) := by decide +kernel
theorem d_MO_channel_121 : decode b_MO_channel 121 = .ok (.getfield 22, 3) := by decide +kernel
theorem d_MO_channel_124 : decode b_MO_channel 124 = .ok (.iload_n 1, 1) := by decide +kernel
theorem d_MO_channel_125 : decode b_MO_channel 125 = .ok (.dup2, 1) := by decide +kernel
theorem d_MO_channel_126 : decode b_MO_channel 126 = .ok (.iaload, 1) := by decide +kernel
theorem d_MO_channel_127 : decode b_MO_channel 127 = .ok (.iconst 1, 1) := by decide +kernel
theorem d_MO_channel_128 : decode b_MO_channel 128 = .ok (.iadd, 1) := by decide +kernel
theorem d_MO_channel_129 : decode b_MO_channel 129 = .ok (.iastore, 1) := by decide +kernel
theorem d_MO_channel_130 : decode b_MO_channel 130 = .ok (.aload_n 0, 1) := by decide +kernel
theorem d_MO_channel_131 : decode b_MO_channel 131 = .ok (.getfield 22, 3) := by decide +kernel
theorem d_MO_channel_134 : decode b_MO_channel 134 = .ok (.iload_n 1, 1) := by decide +kernel
theorem d_MO_channel_135 : decode b_MO_channel 135 = .ok (.iaload, 1) := by decide +kernel
theorem d_MO_channel_136 : decode b_MO_channel 136 = .ok (.iconst 1, 1) := by decide +kernel
theorem d_MO_channel_137 : decode b_MO_channel 137 = .ok (.isub, 1) := by decide +kernel
theorem d_MO_channel_138 : decode b_MO_channel 138 = .ok (.ireturn, 1) := by decide +kernel
theorem d_MO_alarm_0 : decode b_MO_alarm 0 = .ok (.aload_n 0, 1) := by decide +kernel
theorem d_MO_alarm_1 : decode b_MO_alarm 1 = .ok (.iconst 0, 1) := by decide +kernel
theorem d_MO_alarm_2 : decode b_MO_alarm 2 = .ok (.putfield 181, 3) := by decide +kernel
theorem d_MO_alarm_5 : decode b_MO_alarm 5 = .ok (.aload_n 0, 1) := by decide +kernel
theorem d_MO_alarm_6 : decode b_MO_alarm 6 = .ok (.iload_n 1, 1) := by decide +kernel
theorem d_MO_alarm_7 : decode b_MO_alarm 7 = .ok (.iconst 1, 1) := by decide +kernel
theorem d_MO_alarm_8 : decode b_MO_alarm 8 = .ok (.invokevirtual 197, 3) := by decide +kernel
theorem d_MO_alarm_11 : decode b_MO_alarm 11 = .ok (.ifCond .eq 42, 3) := by decide +kernel
theorem d_MO_alarm_14 : decode b_MO_alarm 14 = .ok (.aload_n 0, 1) := by decide +kernel
theorem d_MO_alarm_15 : decode b_MO_alarm 15 = .ok (.iload_n 1, 1) := by decide +kernel
theorem d_MO_alarm_16 : decode b_MO_alarm 16 = .ok (.iload_n 2, 1) := by decide +kernel
theorem d_MO_alarm_17 : decode b_MO_alarm 17 = .ok (.invokevirtual 205, 3) := by decide +kernel
theorem d_MO_alarm_20 : decode b_MO_alarm 20 = .ok (.ifCond .eq 33, 3) := by decide +kernel
theorem d_MO_alarm_23 : decode b_MO_alarm 23 = .ok (.iload_n 3, 1) := by decide +kernel
theorem d_MO_alarm_24 : decode b_MO_alarm 24 = .ok (.iconst 1, 1) := by decide +kernel
theorem d_MO_alarm_25 : decode b_MO_alarm 25 = .ok (.if_icmp .lt 28, 3) := by decide +kernel
theorem d_MO_alarm_28 : decode b_MO_alarm 28 = .ok (.iload_n 3, 1) := by decide +kernel
theorem d_MO_alarm_29 : decode b_MO_alarm 29 = .ok (.iconst 3, 1) := by decide +kernel
theorem d_MO_alarm_30 : decode b_MO_alarm 30 = .ok (.if_icmp .gt 23, 3) := by decide +kernel
theorem d_MO_alarm_33 : decode b_MO_alarm 33 = .ok (.iload 4, 2) := by decide +kernel
theorem d_MO_alarm_35 : decode b_MO_alarm 35 = .ok (.invokestatic 191, 3) := by decide +kernel
theorem d_MO_alarm_38 : decode b_MO_alarm 38 = .ok (.ifCond .eq 15, 3) := by decide +kernel
theorem d_MO_alarm_41 : decode b_MO_alarm 41 = .ok (.iload 5, 2) := by decide +kernel
theorem d_MO_alarm_43 : decode b_MO_alarm 43 = .ok (.ifCond .lt 10, 3) := by decide +kernel
theorem d_MO_alarm_46 : decode b_MO_alarm 46 = .ok (.iload 5, 2) := by decide +kernel
theorem d_MO_alarm_48 : decode b_MO_alarm 48 = .ok (.ldc 190, 2) := by decide +kernel
theorem d_MO_alarm_50 : decode b_MO_alarm 50 = .ok (.if_icmp .le 5, 3) := by decide +kernel
theorem d_MO_alarm_53 : decode b_MO_alarm 53 = .ok (.iconst 0, 1) := by decide +kernel
theorem d_MO_alarm_54 : decode b_MO_alarm 54 = .ok (.ireturn, 1) := by decide +kernel
theorem d_MO_alarm_55 : decode b_MO_alarm 55 = .ok (.aload_n 0, 1) := by decide +kernel
theorem d_MO_alarm_56 : decode b_MO_alarm 56 = .ok (.getfield 68, 3) := by decide +kernel
theorem d_MO_alarm_59 : decode b_MO_alarm 59 = .ok (.iconst 4, 1) := by decide +kernel
theorem d_MO_alarm_60 : decode b_MO_alarm 60 = .ok (.iload_n 1, 1) := by decide +kernel
theorem d_MO_alarm_61 : decode b_MO_alarm 61 = .ok (.imul, 1) := by decide +kernel
theorem d_MO_alarm_62 : decode b_MO_alarm 62 = .ok (.iload_n 2, 1) := by decide +kernel
theorem d_MO_alarm_63 : decode b_MO_alarm 63 = .ok (.iadd, 1) := by decide +kernel
theorem d_MO_alarm_64 : decode b_MO_alarm 64 = .ok (.iload_n 3, 1) := by decide +kernel
theorem d_MO_alarm_65 : decode b_MO_alarm 65 = .ok (.iastore, 1) := by decide +kernel
theorem d_MO_alarm_66 : decode b_MO_alarm 66 = .ok (.aload_n 0, 1) := by decide +kernel
theorem d_MO_alarm_67 : decode b_MO_alarm 67 = .ok (.getfield 71, 3) := by decide +kernel
theorem d_MO_alarm_70 : decode b_MO_alarm 70 = .ok (.iconst 4, 1) := by decide +kernel
theorem d_MO_alarm_71 : decode b_MO_alarm 71 = .ok (.iload_n 1, 1) := by decide +kernel
theorem d_MO_alarm_72 : decode b_MO_alarm 72 = .ok (.imul, 1) := by decide +kernel
theorem d_MO_alarm_73 : decode b_MO_alarm 73 = .ok (.iload_n 2, 1) := by decide +kernel
theorem d_MO_alarm_74 : decode b_MO_alarm 74 = .ok (.iadd, 1) := by decide +kernel
theorem d_MO_alarm_75 : decode b_MO_alarm 75 = .ok (.iload 4, 2) := by decide +kernel
theorem d_MO_alarm_77 : decode b_MO_alarm 77 = .ok (.iastore, 1) := by decide +kernel
theorem d_MO_alarm_78 : decode b_MO_alarm 78 = .ok (.aload_n 0, 1) := by decide +kernel
theorem d_MO_alarm_79 : decode b_MO_alarm 79 = .ok (.getfield 74, 3) := by decide +kernel
theorem d_MO_alarm_82 : decode b_MO_alarm 82 = .ok (.iconst 4, 1) := by decide +kernel
theorem d_MO_alarm_83 : decode b_MO_alarm 83 = .ok (.iload_n 1, 1) := by decide +kernel
theorem d_MO_alarm_84 : decode b_MO_alarm 84 = .ok (.imul, 1) := by decide +kernel
theorem d_MO_alarm_85 : decode b_MO_alarm 85 = .ok (.iload_n 2, 1) := by decide +kernel
theorem d_MO_alarm_86 : decode b_MO_alarm 86 = .ok (.iadd, 1) := by decide +kernel
theorem d_MO_alarm_87 : decode b_MO_alarm 87 = .ok (.iload 5, 2) := by decide +kernel
theorem d_MO_alarm_89 : decode b_MO_alarm 89 = .ok (.iastore, 1) := by decide +kernel
theorem d_MO_alarm_90 : decode b_MO_alarm 90 = .ok (.iconst 1, 1) := by decide +kernel
theorem d_MO_alarm_91 : decode b_MO_alarm 91 = .ok (.ireturn, 1) := by decide +kernel
theorem d_MO_setPoint_0 : decode b_MO_setPoint 0 = .ok (.aload_n 0, 1) := by decide +kernel
theorem d_MO_setPoint_1 : decode b_MO_setPoint 1 = .ok (.iconst 0, 1) := by decide +kernel
theorem d_MO_setPoint_2 : decode b_MO_setPoint 2 = .ok (.putfield 181, 3) := by decide +kernel
theorem d_MO_setPoint_5 : decode b_MO_setPoint 5 = .ok (.aload_n 0, 1) := by decide +kernel
theorem d_MO_setPoint_6 : decode b_MO_setPoint 6 = .ok (.iload_n 1, 1) := by decide +kernel
theorem d_MO_setPoint_7 : decode b_MO_setPoint 7 = .ok (.iconst 1, 1) := by decide +kernel
theorem d_MO_setPoint_8 : decode b_MO_setPoint 8 = .ok (.invokevirtual 197, 3) := by decide +kernel
theorem d_MO_setPoint_11 : decode b_MO_setPoint 11 = .ok (.ifCond .eq 13, 3) := by decide +kernel
theorem d_MO_setPoint_14 : decode b_MO_setPoint 14 = .ok (.iload_n 2, 1) := by decide +kernel
theorem d_MO_setPoint_15 : decode b_MO_setPoint 15 = .ok (.iload_n 3, 1) := by decide +kernel
theorem d_MO_setPoint_16 : decode b_MO_setPoint 16 = .ok (.iload 4, 2) := by decide +kernel
theorem d_MO_setPoint_18 : decode b_MO_setPoint 18 = .ok (.invokestatic 201, 3) := by decide +kernel
theorem d_MO_setPoint_21 : decode b_MO_setPoint 21 = .ok (.ifCond .ne 5, 3) := by decide +kernel
theorem d_MO_setPoint_24 : decode b_MO_setPoint 24 = .ok (.iconst 0, 1) := by decide +kernel
theorem d_MO_setPoint_25 : decode b_MO_setPoint 25 = .ok (.ireturn, 1) := by decide +kernel
theorem d_MO_setPoint_26 : decode b_MO_setPoint 26 = .ok (.aload_n 0, 1) := by decide +kernel
theorem d_MO_setPoint_27 : decode b_MO_setPoint 27 = .ok (.getfield 32, 3) := by decide +kernel
theorem d_MO_setPoint_30 : decode b_MO_setPoint 30 = .ok (.iload_n 1, 1) := by decide +kernel
theorem d_MO_setPoint_31 : decode b_MO_setPoint 31 = .ok (.iconst 1, 1) := by decide +kernel
theorem d_MO_setPoint_32 : decode b_MO_setPoint 32 = .ok (.bastore, 1) := by decide +kernel
theorem d_MO_setPoint_33 : decode b_MO_setPoint 33 = .ok (.aload_n 0, 1) := by decide +kernel
theorem d_MO_setPoint_34 : decode b_MO_setPoint 34 = .ok (.getfield 35, 3) := by decide +kernel
theorem d_MO_setPoint_37 : decode b_MO_setPoint 37 = .ok (.iload_n 1, 1) := by decide +kernel
theorem d_MO_setPoint_38 : decode b_MO_setPoint 38 = .ok (.iload_n 2, 1) := by decide +kernel
theorem d_MO_setPoint_39 : decode b_MO_setPoint 39 = .ok (.iastore, 1) := by decide +kernel
theorem d_MO_setPoint_40 : decode b_MO_setPoint 40 = .ok (.aload_n 0, 1) := by decide +kernel
theorem d_MO_setPoint_41 : decode b_MO_setPoint 41 = .ok (.getfield 38, 3) := by decide +kernel
theorem d_MO_setPoint_44 : decode b_MO_setPoint 44 = .ok (.iload_n 1, 1) := by decide +kernel
theorem d_MO_setPoint_45 : decode b_MO_setPoint 45 = .ok (.iload_n 3, 1) := by decide +kernel
theorem d_MO_setPoint_46 : decode b_MO_setPoint 46 = .ok (.iastore, 1) := by decide +kernel
theorem d_MO_setPoint_47 : decode b_MO_setPoint 47 = .ok (.aload_n 0, 1) := by decide +kernel
theorem d_MO_setPoint_48 : decode b_MO_setPoint 48 = .ok (.getfield 41, 3) := by decide +kernel
theorem d_MO_setPoint_51 : decode b_MO_setPoint 51 = .ok (.iload_n 1, 1) := by decide +kernel
theorem d_MO_setPoint_52 : decode b_MO_setPoint 52 = .ok (.iload 4, 2) := by decide +kernel
theorem d_MO_setPoint_54 : decode b_MO_setPoint 54 = .ok (.iastore, 1) := by decide +kernel
theorem d_MO_setPoint_55 : decode b_MO_setPoint 55 = .ok (.aload_n 0, 1) := by decide +kernel
theorem d_MO_setPoint_56 : decode b_MO_setPoint 56 = .ok (.getfield 44, 3) := by decide +kernel
theorem d_MO_setPoint_59 : decode b_MO_setPoint 59 = .ok (.iload_n 1, 1) := by decide +kernel
theorem d_MO_setPoint_60 : decode b_MO_setPoint 60 = .ok (.iload_n 2, 1) := by decide +kernel
theorem d_MO_setPoint_61 : decode b_MO_setPoint 61 = .ok (.iastore, 1) := by decide +kernel
theorem d_MO_setPoint_62 : decode b_MO_setPoint 62 = .ok (.iconst 1, 1) := by decide +kernel
theorem d_MO_setPoint_63 : decode b_MO_setPoint 63 = .ok (.ireturn, 1) := by decide +kernel
theorem d_MO_seal_0 : decode b_MO_seal 0 = .ok (.aload_n 0, 1) := by decide +kernel
theorem d_MO_seal_1 : decode b_MO_seal 1 = .ok (.iconst 0, 1) := by decide +kernel
theorem d_MO_seal_2 : decode b_MO_seal 2 = .ok (.putfield 181, 3) := by decide +kernel
theorem d_MO_seal_5 : decode b_MO_seal 5 = .ok (.aload_n 0, 1) := by decide +kernel
theorem d_MO_seal_6 : decode b_MO_seal 6 = .ok (.iload_n 1, 1) := by decide +kernel
theorem d_MO_seal_7 : decode b_MO_seal 7 = .ok (.iconst 1, 1) := by decide +kernel
theorem d_MO_seal_8 : decode b_MO_seal 8 = .ok (.invokevirtual 197, 3) := by decide +kernel
theorem d_MO_seal_11 : decode b_MO_seal 11 = .ok (.ifCond .eq 12, 3) := by decide +kernel
theorem d_MO_seal_14 : decode b_MO_seal 14 = .ok (.aload_n 0, 1) := by decide +kernel
theorem d_MO_seal_15 : decode b_MO_seal 15 = .ok (.getfield 22, 3) := by decide +kernel
theorem d_MO_seal_18 : decode b_MO_seal 18 = .ok (.iload_n 1, 1) := by decide +kernel
theorem d_MO_seal_19 : decode b_MO_seal 19 = .ok (.iaload, 1) := by decide +kernel
theorem d_MO_seal_20 : decode b_MO_seal 20 = .ok (.ifCond .ne 5, 3) := by decide +kernel
theorem d_MO_seal_23 : decode b_MO_seal 23 = .ok (.iconst 0, 1) := by decide +kernel
theorem d_MO_seal_24 : decode b_MO_seal 24 = .ok (.ireturn, 1) := by decide +kernel
theorem d_MO_seal_25 : decode b_MO_seal 25 = .ok (.aload_n 0, 1) := by decide +kernel
theorem d_MO_seal_26 : decode b_MO_seal 26 = .ok (.getfield 13, 3) := by decide +kernel
theorem d_MO_seal_29 : decode b_MO_seal 29 = .ok (.iload_n 1, 1) := by decide +kernel
theorem d_MO_seal_30 : decode b_MO_seal 30 = .ok (.iconst 2, 1) := by decide +kernel
theorem d_MO_seal_31 : decode b_MO_seal 31 = .ok (.iastore, 1) := by decide +kernel
theorem d_MO_seal_32 : decode b_MO_seal 32 = .ok (.iconst 1, 1) := by decide +kernel
theorem d_MO_seal_33 : decode b_MO_seal 33 = .ok (.ireturn, 1) := by decide +kernel
theorem d_MO_untie_0 : decode b_MO_untie 0 = .ok (.aload_n 0, 1) := by decide +kernel
theorem d_MO_untie_1 : decode b_MO_untie 1 = .ok (.getfield 25, 3) := by decide +kernel
theorem d_MO_untie_4 : decode b_MO_untie 4 = .ok (.iload_n 1, 1) := by decide +kernel
theorem d_MO_untie_5 : decode b_MO_untie 5 = .ok (.iconst 0, 1) := by decide +kernel
theorem d_MO_untie_6 : decode b_MO_untie 6 = .ok (.iastore, 1) := by decide +kernel
theorem d_MO_untie_7 : decode b_MO_untie 7 = .ok (.iconst 4, 1) := by decide +kernel
theorem d_MO_untie_8 : decode b_MO_untie 8 = .ok (.iload_n 1, 1) := by decide +kernel
theorem d_MO_untie_9 : decode b_MO_untie 9 = .ok (.imul, 1) := by decide +kernel
theorem d_MO_untie_10 : decode b_MO_untie 10 = .ok (.istore_n 2, 1) := by decide +kernel
theorem d_MO_untie_11 : decode b_MO_untie 11 = .ok (.iload_n 2, 1) := by decide +kernel
theorem d_MO_untie_12 : decode b_MO_untie 12 = .ok (.iconst 4, 1) := by decide +kernel
theorem d_MO_untie_13 : decode b_MO_untie 13 = .ok (.iload_n 1, 1) := by decide +kernel
theorem d_MO_untie_14 : decode b_MO_untie 14 = .ok (.imul, 1) := by decide +kernel
theorem d_MO_untie_15 : decode b_MO_untie 15 = .ok (.iconst 4, 1) := by decide +kernel
theorem d_MO_untie_16 : decode b_MO_untie 16 = .ok (.iadd, 1) := by decide +kernel
theorem d_MO_untie_17 : decode b_MO_untie 17 = .ok (.if_icmp .ge 16, 3) := by decide +kernel
theorem d_MO_untie_20 : decode b_MO_untie 20 = .ok (.aload_n 0, 1) := by decide +kernel
theorem d_MO_untie_21 : decode b_MO_untie 21 = .ok (.getfield 80, 3) := by decide +kernel
theorem d_MO_untie_24 : decode b_MO_untie 24 = .ok (.iload_n 2, 1) := by decide +kernel
theorem d_MO_untie_25 : decode b_MO_untie 25 = .ok (.iconst 0, 1) := by decide +kernel
theorem d_MO_untie_26 : decode b_MO_untie 26 = .ok (.bastore, 1) := by decide +kernel
theorem d_MO_untie_27 : decode b_MO_untie 27 = .ok (.iinc 2 1, 3) := by decide +kernel
theorem d_MO_untie_30 : decode b_MO_untie 30 = .ok (.goto (-19), 3) := by decide +kernel
theorem d_MO_untie_33 : decode b_MO_untie 33 = .ok (.return_, 1) := by decide +kernel
theorem d_MO_move_0 : decode b_MO_move 0 = .ok (.aload_n 0, 1) := by decide +kernel
theorem d_MO_move_1 : decode b_MO_move 1 = .ok (.iconst 0, 1) := by decide +kernel
theorem d_MO_move_2 : decode b_MO_move 2 = .ok (.putfield 181, 3) := by decide +kernel
theorem d_MO_move_5 : decode b_MO_move 5 = .ok (.aload_n 0, 1) := by decide +kernel
theorem d_MO_move_6 : decode b_MO_move 6 = .ok (.iload_n 1, 1) := by decide +kernel
theorem d_MO_move_7 : decode b_MO_move 7 = .ok (.iconst 2, 1) := by decide +kernel
theorem d_MO_move_8 : decode b_MO_move 8 = .ok (.invokevirtual 197, 3) := by decide +kernel
theorem d_MO_move_11 : decode b_MO_move 11 = .ok (.ifCond .eq 10, 3) := by decide +kernel
theorem d_MO_move_14 : decode b_MO_move 14 = .ok (.iload_n 2, 1) := by decide +kernel
theorem d_MO_move_15 : decode b_MO_move 15 = .ok (.invokestatic 194, 3) := by decide +kernel
theorem d_MO_move_18 : decode b_MO_move 18 = .ok (.ifCond .ne 5, 3) := by decide +kernel
theorem d_MO_move_21 : decode b_MO_move 21 = .ok (.iconst 0, 1) := by decide +kernel
theorem d_MO_move_22 : decode b_MO_move 22 = .ok (.ireturn, 1) := by decide +kernel
theorem d_MO_move_23 : decode b_MO_move 23 = .ok (.aload_n 0, 1) := by decide +kernel
theorem d_MO_move_24 : decode b_MO_move 24 = .ok (.getfield 16, 3) := by decide +kernel
theorem d_MO_move_27 : decode b_MO_move 27 = .ok (.iload_n 1, 1) := by decide +kernel
theorem d_MO_move_28 : decode b_MO_move 28 = .ok (.iload_n 2, 1) := by decide +kernel
theorem d_MO_move_29 : decode b_MO_move 29 = .ok (.iastore, 1) := by decide +kernel
theorem d_MO_move_30 : decode b_MO_move 30 = .ok (.aload_n 0, 1) := by decide +kernel
theorem d_MO_move_31 : decode b_MO_move 31 = .ok (.iload_n 1, 1) := by decide +kernel
theorem d_MO_move_32 : decode b_MO_move 32 = .ok (.invokevirtual 208, 3) := by decide +kernel
theorem d_MO_move_35 : decode b_MO_move 35 = .ok (.aload_n 0, 1) := by decide +kernel
theorem d_MO_move_36 : decode b_MO_move 36 = .ok (.invokevirtual 211, 3) := by decide +kernel
theorem d_MO_move_39 : decode b_MO_move 39 = .ok (.iconst 1, 1) := by decide +kernel
theorem d_MO_move_40 : decode b_MO_move 40 = .ok (.ireturn, 1) := by decide +kernel
theorem d_MO_patient_0 : decode b_MO_patient 0 = .ok (.aload_n 0, 1) := by decide +kernel
theorem d_MO_patient_1 : decode b_MO_patient 1 = .ok (.iconst 0, 1) := by decide +kernel
theorem d_MO_patient_2 : decode b_MO_patient 2 = .ok (.putfield 181, 3) := by decide +kernel
theorem d_MO_patient_5 : decode b_MO_patient 5 = .ok (.iload_n 1, 1) := by decide +kernel
theorem d_MO_patient_6 : decode b_MO_patient 6 = .ok (.invokestatic 194, 3) := by decide +kernel
theorem d_MO_patient_9 : decode b_MO_patient 9 = .ok (.ifCond .eq 17, 3) := by decide +kernel
theorem d_MO_patient_12 : decode b_MO_patient 12 = .ok (.iload_n 2, 1) := by decide +kernel
theorem d_MO_patient_13 : decode b_MO_patient 13 = .ok (.ifCond .lt 13, 3) := by decide +kernel
theorem d_MO_patient_16 : decode b_MO_patient 16 = .ok (.aload_n 0, 1) := by decide +kernel
theorem d_MO_patient_17 : decode b_MO_patient 17 = .ok (.getfield 7, 3) := by decide +kernel
theorem d_MO_patient_20 : decode b_MO_patient 20 = .ok (.iload_n 1, 1) := by decide +kernel
theorem d_MO_patient_21 : decode b_MO_patient 21 = .ok (.iaload, 1) := by decide +kernel
theorem d_MO_patient_22 : decode b_MO_patient 22 = .ok (.iload_n 2, 1) := by decide +kernel
theorem d_MO_patient_23 : decode b_MO_patient 23 = .ok (.if_icmp .ne 5, 3) := by decide +kernel
theorem d_MO_patient_26 : decode b_MO_patient 26 = .ok (.iconst 0, 1) := by decide +kernel
theorem d_MO_patient_27 : decode b_MO_patient 27 = .ok (.ireturn, 1) := by decide +kernel
theorem d_MO_patient_28 : decode b_MO_patient 28 = .ok (.aload_n 0, 1) := by decide +kernel
theorem d_MO_patient_29 : decode b_MO_patient 29 = .ok (.getfield 7, 3) := by decide +kernel
theorem d_MO_patient_32 : decode b_MO_patient 32 = .ok (.iload_n 1, 1) := by decide +kernel
theorem d_MO_patient_33 : decode b_MO_patient 33 = .ok (.iload_n 2, 1) := by decide +kernel
theorem d_MO_patient_34 : decode b_MO_patient 34 = .ok (.iastore, 1) := by decide +kernel
theorem d_MO_patient_35 : decode b_MO_patient 35 = .ok (.iconst 0, 1) := by decide +kernel
theorem d_MO_patient_36 : decode b_MO_patient 36 = .ok (.istore_n 3, 1) := by decide +kernel
theorem d_MO_patient_37 : decode b_MO_patient 37 = .ok (.iload_n 3, 1) := by decide +kernel
theorem d_MO_patient_38 : decode b_MO_patient 38 = .ok (.bipush 8, 2) := by decide +kernel
theorem d_MO_patient_40 : decode b_MO_patient 40 = .ok (.if_icmp .ge 24, 3) := by decide +kernel
theorem d_MO_patient_43 : decode b_MO_patient 43 = .ok (.aload_n 0, 1) := by decide +kernel
theorem d_MO_patient_44 : decode b_MO_patient 44 = .ok (.getfield 16, 3) := by decide +kernel
theorem d_MO_patient_47 : decode b_MO_patient 47 = .ok (.iload_n 3, 1) := by decide +kernel
theorem d_MO_patient_48 : decode b_MO_patient 48 = .ok (.iaload, 1) := by decide +kernel
theorem d_MO_patient_49 : decode b_MO_patient 49 = .ok (.iload_n 1, 1) := by decide +kernel
theorem d_MO_patient_50 : decode b_MO_patient 50 = .ok (.if_icmp .ne 8, 3) := by decide +kernel
theorem d_MO_patient_53 : decode b_MO_patient 53 = .ok (.aload_n 0, 1) := by decide +kernel
theorem d_MO_patient_54 : decode b_MO_patient 54 = .ok (.iload_n 3, 1) := by decide +kernel
theorem d_MO_patient_55 : decode b_MO_patient 55 = .ok (.invokevirtual 208, 3) := by decide +kernel
theorem d_MO_patient_58 : decode b_MO_patient 58 = .ok (.iinc 3 1, 3) := by decide +kernel
theorem d_MO_patient_61 : decode b_MO_patient 61 = .ok (.goto (-24), 3) := by decide +kernel
theorem d_MO_patient_64 : decode b_MO_patient 64 = .ok (.aload_n 0, 1) := by decide +kernel
theorem d_MO_patient_65 : decode b_MO_patient 65 = .ok (.invokevirtual 211, 3) := by decide +kernel
theorem d_MO_patient_68 : decode b_MO_patient 68 = .ok (.iconst 1, 1) := by decide +kernel
theorem d_MO_patient_69 : decode b_MO_patient 69 = .ok (.ireturn, 1) := by decide +kernel
theorem d_MO_confirm_0 : decode b_MO_confirm 0 = .ok (.aload_n 0, 1) := by decide +kernel
theorem d_MO_confirm_1 : decode b_MO_confirm 1 = .ok (.iconst 0, 1) := by decide +kernel
theorem d_MO_confirm_2 : decode b_MO_confirm 2 = .ok (.putfield 181, 3) := by decide +kernel
theorem d_MO_confirm_5 : decode b_MO_confirm 5 = .ok (.aload_n 0, 1) := by decide +kernel
theorem d_MO_confirm_6 : decode b_MO_confirm 6 = .ok (.iload_n 1, 1) := by decide +kernel
theorem d_MO_confirm_7 : decode b_MO_confirm 7 = .ok (.iconst 2, 1) := by decide +kernel
theorem d_MO_confirm_8 : decode b_MO_confirm 8 = .ok (.invokevirtual 197, 3) := by decide +kernel
theorem d_MO_confirm_11 : decode b_MO_confirm 11 = .ok (.ifCond .eq 26, 3) := by decide +kernel
theorem d_MO_confirm_14 : decode b_MO_confirm 14 = .ok (.aload_n 0, 1) := by decide +kernel
theorem d_MO_confirm_15 : decode b_MO_confirm 15 = .ok (.getfield 25, 3) := by decide +kernel
theorem d_MO_confirm_18 : decode b_MO_confirm 18 = .ok (.iload_n 1, 1) := by decide +kernel
theorem d_MO_confirm_19 : decode b_MO_confirm 19 = .ok (.iaload, 1) := by decide +kernel
theorem d_MO_confirm_20 : decode b_MO_confirm 20 = .ok (.ifCond .ne 17, 3) := by decide +kernel
theorem d_MO_confirm_23 : decode b_MO_confirm 23 = .ok (.aload_n 0, 1) := by decide +kernel
theorem d_MO_confirm_24 : decode b_MO_confirm 24 = .ok (.getfield 7, 3) := by decide +kernel
theorem d_MO_confirm_27 : decode b_MO_confirm 27 = .ok (.aload_n 0, 1) := by decide +kernel
theorem d_MO_confirm_28 : decode b_MO_confirm 28 = .ok (.getfield 16, 3) := by decide +kernel
theorem d_MO_confirm_31 : decode b_MO_confirm 31 = .ok (.iload_n 1, 1) := by decide +kernel
theorem d_MO_confirm_32 : decode b_MO_confirm 32 = .ok (.iaload, 1) := by decide +kernel
theorem d_MO_confirm_33 : decode b_MO_confirm 33 = .ok (.iaload, 1) := by decide +kernel
theorem d_MO_confirm_34 : decode b_MO_confirm 34 = .ok (.ifCond .ne 5, 3) := by decide +kernel
theorem d_MO_confirm_37 : decode b_MO_confirm 37 = .ok (.iconst 0, 1) := by decide +kernel
theorem d_MO_confirm_38 : decode b_MO_confirm 38 = .ok (.ireturn, 1) := by decide +kernel
theorem d_MO_confirm_39 : decode b_MO_confirm 39 = .ok (.aload_n 0, 1) := by decide +kernel
theorem d_MO_confirm_40 : decode b_MO_confirm 40 = .ok (.getfield 25, 3) := by decide +kernel
theorem d_MO_confirm_43 : decode b_MO_confirm 43 = .ok (.iload_n 1, 1) := by decide +kernel
theorem d_MO_confirm_44 : decode b_MO_confirm 44 = .ok (.aload_n 0, 1) := by decide +kernel
theorem d_MO_confirm_45 : decode b_MO_confirm 45 = .ok (.getfield 7, 3) := by decide +kernel
theorem d_MO_confirm_48 : decode b_MO_confirm 48 = .ok (.aload_n 0, 1) := by decide +kernel
theorem d_MO_confirm_49 : decode b_MO_confirm 49 = .ok (.getfield 16, 3) := by decide +kernel
theorem d_MO_confirm_52 : decode b_MO_confirm 52 = .ok (.iload_n 1, 1) := by decide +kernel
theorem d_MO_confirm_53 : decode b_MO_confirm 53 = .ok (.iaload, 1) := by decide +kernel
theorem d_MO_confirm_54 : decode b_MO_confirm 54 = .ok (.iaload, 1) := by decide +kernel
theorem d_MO_confirm_55 : decode b_MO_confirm 55 = .ok (.iastore, 1) := by decide +kernel
theorem d_MO_confirm_56 : decode b_MO_confirm 56 = .ok (.aload_n 0, 1) := by decide +kernel
theorem d_MO_confirm_57 : decode b_MO_confirm 57 = .ok (.invokevirtual 211, 3) := by decide +kernel
theorem d_MO_confirm_60 : decode b_MO_confirm 60 = .ok (.iconst 1, 1) := by decide +kernel
theorem d_MO_confirm_61 : decode b_MO_confirm 61 = .ok (.ireturn, 1) := by decide +kernel
theorem d_MO_send_0 : decode b_MO_send 0 = .ok (.aload_n 0, 1) := by decide +kernel
theorem d_MO_send_1 : decode b_MO_send 1 = .ok (.getfield 214, 3) := by decide +kernel
theorem d_MO_send_4 : decode b_MO_send 4 = .ok (.bipush 64, 2) := by decide +kernel
theorem d_MO_send_6 : decode b_MO_send 6 = .ok (.if_icmp .ge 111, 3) := by decide +kernel
theorem d_MO_send_9 : decode b_MO_send 9 = .ok (.aload_n 0, 1) := by decide +kernel
theorem d_MO_send_10 : decode b_MO_send 10 = .ok (.getfield 116, 3) := by decide +kernel
theorem d_MO_send_13 : decode b_MO_send 13 = .ok (.aload_n 0, 1) := by decide +kernel
theorem d_MO_send_14 : decode b_MO_send 14 = .ok (.getfield 214, 3) := by decide +kernel
theorem d_MO_send_17 : decode b_MO_send 17 = .ok (.aload_n 0, 1) := by decide +kernel
theorem d_MO_send_18 : decode b_MO_send 18 = .ok (.getfield 217, 3) := by decide +kernel
theorem d_MO_send_21 : decode b_MO_send 21 = .ok (.iastore, 1) := by decide +kernel
theorem d_MO_send_22 : decode b_MO_send 22 = .ok (.aload_n 0, 1) := by decide +kernel
theorem d_MO_send_23 : decode b_MO_send 23 = .ok (.getfield 119, 3) := by decide +kernel
theorem d_MO_send_26 : decode b_MO_send 26 = .ok (.aload_n 0, 1) := by decide +kernel
theorem d_MO_send_27 : decode b_MO_send 27 = .ok (.getfield 214, 3) := by decide +kernel
theorem d_MO_send_30 : decode b_MO_send 30 = .ok (.iload_n 1, 1) := by decide +kernel
theorem d_MO_send_31 : decode b_MO_send 31 = .ok (.iastore, 1) := by decide +kernel
theorem d_MO_send_32 : decode b_MO_send 32 = .ok (.aload_n 0, 1) := by decide +kernel
theorem d_MO_send_33 : decode b_MO_send 33 = .ok (.getfield 122, 3) := by decide +kernel
theorem d_MO_send_36 : decode b_MO_send 36 = .ok (.aload_n 0, 1) := by decide +kernel
theorem d_MO_send_37 : decode b_MO_send 37 = .ok (.getfield 214, 3) := by decide +kernel
theorem d_MO_send_40 : decode b_MO_send 40 = .ok (.iload_n 2, 1) := by decide +kernel
theorem d_MO_send_41 : decode b_MO_send 41 = .ok (.iastore, 1) := by decide +kernel
theorem d_MO_send_42 : decode b_MO_send 42 = .ok (.aload_n 0, 1) := by decide +kernel
theorem d_MO_send_43 : decode b_MO_send 43 = .ok (.getfield 125, 3) := by decide +kernel
theorem d_MO_send_46 : decode b_MO_send 46 = .ok (.aload_n 0, 1) := by decide +kernel
theorem d_MO_send_47 : decode b_MO_send 47 = .ok (.getfield 214, 3) := by decide +kernel
theorem d_MO_send_50 : decode b_MO_send 50 = .ok (.iload_n 3, 1) := by decide +kernel
theorem d_MO_send_51 : decode b_MO_send 51 = .ok (.iastore, 1) := by decide +kernel
theorem d_MO_send_52 : decode b_MO_send 52 = .ok (.aload_n 0, 1) := by decide +kernel
theorem d_MO_send_53 : decode b_MO_send 53 = .ok (.getfield 128, 3) := by decide +kernel
theorem d_MO_send_56 : decode b_MO_send 56 = .ok (.aload_n 0, 1) := by decide +kernel
theorem d_MO_send_57 : decode b_MO_send 57 = .ok (.getfield 214, 3) := by decide +kernel
theorem d_MO_send_60 : decode b_MO_send 60 = .ok (.aload_n 0, 1) := by decide +kernel
theorem d_MO_send_61 : decode b_MO_send 61 = .ok (.getfield 19, 3) := by decide +kernel
theorem d_MO_send_64 : decode b_MO_send 64 = .ok (.iload_n 2, 1) := by decide +kernel
theorem d_MO_send_65 : decode b_MO_send 65 = .ok (.iaload, 1) := by decide +kernel
theorem d_MO_send_66 : decode b_MO_send 66 = .ok (.iastore, 1) := by decide +kernel
theorem d_MO_send_67 : decode b_MO_send 67 = .ok (.aload_n 0, 1) := by decide +kernel
theorem d_MO_send_68 : decode b_MO_send 68 = .ok (.getfield 131, 3) := by decide +kernel
theorem d_MO_send_71 : decode b_MO_send 71 = .ok (.aload_n 0, 1) := by decide +kernel
theorem d_MO_send_72 : decode b_MO_send 72 = .ok (.getfield 214, 3) := by decide +kernel
theorem d_MO_send_75 : decode b_MO_send 75 = .ok (.iload 4, 2) := by decide +kernel
theorem d_MO_send_77 : decode b_MO_send 77 = .ok (.iastore, 1) := by decide +kernel
theorem d_MO_send_78 : decode b_MO_send 78 = .ok (.aload_n 0, 1) := by decide +kernel
theorem d_MO_send_79 : decode b_MO_send 79 = .ok (.getfield 134, 3) := by decide +kernel
theorem d_MO_send_82 : decode b_MO_send 82 = .ok (.aload_n 0, 1) := by decide +kernel
theorem d_MO_send_83 : decode b_MO_send 83 = .ok (.getfield 214, 3) := by decide +kernel
theorem d_MO_send_86 : decode b_MO_send 86 = .ok (.iload 5, 2) := by decide +kernel
theorem d_MO_send_88 : decode b_MO_send 88 = .ok (.iastore, 1) := by decide +kernel
theorem d_MO_send_89 : decode b_MO_send 89 = .ok (.aload_n 0, 1) := by decide +kernel
theorem d_MO_send_90 : decode b_MO_send 90 = .ok (.getfield 137, 3) := by decide +kernel
theorem d_MO_send_93 : decode b_MO_send 93 = .ok (.aload_n 0, 1) := by decide +kernel
theorem d_MO_send_94 : decode b_MO_send 94 = .ok (.getfield 214, 3) := by decide +kernel
theorem d_MO_send_97 : decode b_MO_send 97 = .ok (.aload_n 0, 1) := by decide +kernel
theorem d_MO_send_98 : decode b_MO_send 98 = .ok (.getfield 25, 3) := by decide +kernel
theorem d_MO_send_101 : decode b_MO_send 101 = .ok (.iload_n 2, 1) := by decide +kernel
theorem d_MO_send_102 : decode b_MO_send 102 = .ok (.iaload, 1) := by decide +kernel
theorem d_MO_send_103 : decode b_MO_send 103 = .ok (.iastore, 1) := by decide +kernel
theorem d_MO_send_104 : decode b_MO_send 104 = .ok (.aload_n 0, 1) := by decide +kernel
theorem d_MO_send_105 : decode b_MO_send 105 = .ok (.dup, 1) := by decide +kernel
theorem d_MO_send_106 : decode b_MO_send 106 = .ok (.getfield 214, 3) := by decide +kernel
theorem d_MO_send_109 : decode b_MO_send 109 = .ok (.iconst 1, 1) := by decide +kernel
theorem d_MO_send_110 : decode b_MO_send 110 = .ok (.iadd, 1) := by decide +kernel
theorem d_MO_send_111 : decode b_MO_send 111 = .ok (.putfield 214, 3) := by decide +kernel
theorem d_MO_send_114 : decode b_MO_send 114 = .ok (.goto 13, 3) := by decide +kernel
theorem d_MO_send_117 : decode b_MO_send 117 = .ok (.aload_n 0, 1) := by decide +kernel
theorem d_MO_send_118 : decode b_MO_send 118 = .ok (.dup, 1) := by decide +kernel
theorem d_MO_send_119 : decode b_MO_send 119 = .ok (.getfield 220, 3) := by decide +kernel
theorem d_MO_send_122 : decode b_MO_send 122 = .ok (.iconst 1, 1) := by decide +kernel
theorem d_MO_send_123 : decode b_MO_send 123 = .ok (.iadd, 1) := by decide +kernel
theorem d_MO_send_124 : decode b_MO_send 124 = .ok (.putfield 220, 3) := by decide +kernel
theorem d_MO_send_127 : decode b_MO_send 127 = .ok (.aload_n 0, 1) := by decide +kernel
theorem d_MO_send_128 : decode b_MO_send 128 = .ok (.dup, 1) := by decide +kernel
theorem d_MO_send_129 : decode b_MO_send 129 = .ok (.getfield 217, 3) := by decide +kernel
theorem d_MO_send_132 : decode b_MO_send 132 = .ok (.iconst 1, 1) := by decide +kernel
theorem d_MO_send_133 : decode b_MO_send 133 = .ok (.iadd, 1) := by decide +kernel
theorem d_MO_send_134 : decode b_MO_send 134 = .ok (.putfield 217, 3) := by decide +kernel
theorem d_MO_send_137 : decode b_MO_send 137 = .ok (.return_, 1) := by decide +kernel
theorem d_MO_sendValue_0 : decode b_MO_sendValue 0 = .ok (.iconst 4, 1) := by decide +kernel
theorem d_MO_sendValue_1 : decode b_MO_sendValue 1 = .ok (.iload_n 1, 1) := by decide +kernel
theorem d_MO_sendValue_2 : decode b_MO_sendValue 2 = .ok (.imul, 1) := by decide +kernel
theorem d_MO_sendValue_3 : decode b_MO_sendValue 3 = .ok (.iload_n 2, 1) := by decide +kernel
theorem d_MO_sendValue_4 : decode b_MO_sendValue 4 = .ok (.iadd, 1) := by decide +kernel
theorem d_MO_sendValue_5 : decode b_MO_sendValue 5 = .ok (.istore_n 3, 1) := by decide +kernel
theorem d_MO_sendValue_6 : decode b_MO_sendValue 6 = .ok (.aload_n 0, 1) := by decide +kernel
theorem d_MO_sendValue_7 : decode b_MO_sendValue 7 = .ok (.getfield 89, 3) := by decide +kernel
theorem d_MO_sendValue_10 : decode b_MO_sendValue 10 = .ok (.iload_n 3, 1) := by decide +kernel
theorem d_MO_sendValue_11 : decode b_MO_sendValue 11 = .ok (.aload_n 0, 1) := by decide +kernel
theorem d_MO_sendValue_12 : decode b_MO_sendValue 12 = .ok (.getfield 223, 3) := by decide +kernel
theorem d_MO_sendValue_15 : decode b_MO_sendValue 15 = .ok (.iastore, 1) := by decide +kernel
theorem d_MO_sendValue_16 : decode b_MO_sendValue 16 = .ok (.aload_n 0, 1) := by decide +kernel
theorem d_MO_sendValue_17 : decode b_MO_sendValue 17 = .ok (.iconst 1, 1) := by decide +kernel
theorem d_MO_sendValue_18 : decode b_MO_sendValue 18 = .ok (.iload_n 1, 1) := by decide +kernel
theorem d_MO_sendValue_19 : decode b_MO_sendValue 19 = .ok (.iload_n 2, 1) := by decide +kernel
theorem d_MO_sendValue_20 : decode b_MO_sendValue 20 = .ok (.aload_n 0, 1) := by decide +kernel
theorem d_MO_sendValue_21 : decode b_MO_sendValue 21 = .ok (.getfield 83, 3) := by decide +kernel
theorem d_MO_sendValue_24 : decode b_MO_sendValue 24 = .ok (.iload_n 3, 1) := by decide +kernel
theorem d_MO_sendValue_25 : decode b_MO_sendValue 25 = .ok (.iaload, 1) := by decide +kernel
theorem d_MO_sendValue_26 : decode b_MO_sendValue 26 = .ok (.aload_n 0, 1) := by decide +kernel
theorem d_MO_sendValue_27 : decode b_MO_sendValue 27 = .ok (.getfield 86, 3) := by decide +kernel
theorem d_MO_sendValue_30 : decode b_MO_sendValue 30 = .ok (.iload_n 3, 1) := by decide +kernel
theorem d_MO_sendValue_31 : decode b_MO_sendValue 31 = .ok (.iaload, 1) := by decide +kernel
theorem d_MO_sendValue_32 : decode b_MO_sendValue 32 = .ok (.invokevirtual 226, 3) := by decide +kernel
theorem d_MO_sendValue_35 : decode b_MO_sendValue 35 = .ok (.return_, 1) := by decide +kernel
theorem d_MO_sendSounds_0 : decode b_MO_sendSounds 0 = .ok (.aload_n 0, 1) := by decide +kernel
theorem d_MO_sendSounds_1 : decode b_MO_sendSounds 1 = .ok (.getfield 113, 3) := by decide +kernel
theorem d_MO_sendSounds_4 : decode b_MO_sendSounds 4 = .ok (.iload_n 1, 1) := by decide +kernel
theorem d_MO_sendSounds_5 : decode b_MO_sendSounds 5 = .ok (.aload_n 0, 1) := by decide +kernel
theorem d_MO_sendSounds_6 : decode b_MO_sendSounds 6 = .ok (.getfield 223, 3) := by decide +kernel
theorem d_MO_sendSounds_9 : decode b_MO_sendSounds 9 = .ok (.iastore, 1) := by decide +kernel
theorem d_MO_sendSounds_10 : decode b_MO_sendSounds 10 = .ok (.aload_n 0, 1) := by decide +kernel
theorem d_MO_sendSounds_11 : decode b_MO_sendSounds 11 = .ok (.iconst 3, 1) := by decide +kernel
theorem d_MO_sendSounds_12 : decode b_MO_sendSounds 12 = .ok (.iload_n 1, 1) := by decide +kernel
theorem d_MO_sendSounds_13 : decode b_MO_sendSounds 13 = .ok (.iconst 0, 1) := by decide +kernel
theorem d_MO_sendSounds_14 : decode b_MO_sendSounds 14 = .ok (.iconst 0, 1) := by decide +kernel
theorem d_MO_sendSounds_15 : decode b_MO_sendSounds 15 = .ok (.iconst 0, 1) := by decide +kernel
theorem d_MO_sendSounds_16 : decode b_MO_sendSounds 16 = .ok (.invokevirtual 226, 3) := by decide +kernel
theorem d_MO_sendSounds_19 : decode b_MO_sendSounds 19 = .ok (.return_, 1) := by decide +kernel
theorem d_MO_find_0 : decode b_MO_find 0 = .ok (.iconst (-1), 1) := by decide +kernel
theorem d_MO_find_1 : decode b_MO_find 1 = .ok (.istore_n 2, 1) := by decide +kernel
theorem d_MO_find_2 : decode b_MO_find 2 = .ok (.iconst 0, 1) := by decide +kernel
theorem d_MO_find_3 : decode b_MO_find 3 = .ok (.istore_n 3, 1) := by decide +kernel
theorem d_MO_find_4 : decode b_MO_find 4 = .ok (.iload_n 3, 1) := by decide +kernel
theorem d_MO_find_5 : decode b_MO_find 5 = .ok (.aload_n 0, 1) := by decide +kernel
theorem d_MO_find_6 : decode b_MO_find 6 = .ok (.getfield 214, 3) := by decide +kernel
theorem d_MO_find_9 : decode b_MO_find 9 = .ok (.if_icmp .ge 25, 3) := by decide +kernel
theorem d_MO_find_12 : decode b_MO_find 12 = .ok (.aload_n 0, 1) := by decide +kernel
theorem d_MO_find_13 : decode b_MO_find 13 = .ok (.getfield 116, 3) := by decide +kernel
theorem d_MO_find_16 : decode b_MO_find 16 = .ok (.iload_n 3, 1) := by decide +kernel
theorem d_MO_find_17 : decode b_MO_find 17 = .ok (.iaload, 1) := by decide +kernel
theorem d_MO_find_18 : decode b_MO_find 18 = .ok (.iload_n 1, 1) := by decide +kernel
theorem d_MO_find_19 : decode b_MO_find 19 = .ok (.if_icmp .ne 7, 3) := by decide +kernel
theorem d_MO_find_22 : decode b_MO_find 22 = .ok (.iload_n 3, 1) := by decide +kernel
theorem d_MO_find_23 : decode b_MO_find 23 = .ok (.goto 4, 3) := by decide +kernel
theorem d_MO_find_26 : decode b_MO_find 26 = .ok (.iload_n 2, 1) := by decide +kernel
theorem d_MO_find_27 : decode b_MO_find 27 = .ok (.istore_n 2, 1) := by decide +kernel
theorem d_MO_find_28 : decode b_MO_find 28 = .ok (.iinc 3 1, 3) := by decide +kernel
theorem d_MO_find_31 : decode b_MO_find 31 = .ok (.goto (-27), 3) := by decide +kernel
theorem d_MO_find_34 : decode b_MO_find 34 = .ok (.iload_n 2, 1) := by decide +kernel
theorem d_MO_find_35 : decode b_MO_find 35 = .ok (.ireturn, 1) := by decide +kernel
theorem d_MO_take_0 : decode b_MO_take 0 = .ok (.aload_n 0, 1) := by decide +kernel
theorem d_MO_take_1 : decode b_MO_take 1 = .ok (.dup, 1) := by decide +kernel
theorem d_MO_take_2 : decode b_MO_take 2 = .ok (.getfield 214, 3) := by decide +kernel
theorem d_MO_take_5 : decode b_MO_take 5 = .ok (.iconst 1, 1) := by decide +kernel
theorem d_MO_take_6 : decode b_MO_take 6 = .ok (.isub, 1) := by decide +kernel
theorem d_MO_take_7 : decode b_MO_take 7 = .ok (.putfield 214, 3) := by decide +kernel
theorem d_MO_take_10 : decode b_MO_take 10 = .ok (.iload_n 1, 1) := by decide +kernel
theorem d_MO_take_11 : decode b_MO_take 11 = .ok (.istore_n 2, 1) := by decide +kernel
theorem d_MO_take_12 : decode b_MO_take 12 = .ok (.iload_n 2, 1) := by decide +kernel
theorem d_MO_take_13 : decode b_MO_take 13 = .ok (.aload_n 0, 1) := by decide +kernel
theorem d_MO_take_14 : decode b_MO_take 14 = .ok (.getfield 214, 3) := by decide +kernel
theorem d_MO_take_17 : decode b_MO_take 17 = .ok (.if_icmp .ge 121, 3) := by decide +kernel
theorem d_MO_take_20 : decode b_MO_take 20 = .ok (.aload_n 0, 1) := by decide +kernel
theorem d_MO_take_21 : decode b_MO_take 21 = .ok (.getfield 116, 3) := by decide +kernel
theorem d_MO_take_24 : decode b_MO_take 24 = .ok (.iload_n 2, 1) := by decide +kernel
theorem d_MO_take_25 : decode b_MO_take 25 = .ok (.aload_n 0, 1) := by decide +kernel
theorem d_MO_take_26 : decode b_MO_take 26 = .ok (.getfield 116, 3) := by decide +kernel
theorem d_MO_take_29 : decode b_MO_take 29 = .ok (.iload_n 2, 1) := by decide +kernel
theorem d_MO_take_30 : decode b_MO_take 30 = .ok (.iconst 1, 1) := by decide +kernel
theorem d_MO_take_31 : decode b_MO_take 31 = .ok (.iadd, 1) := by decide +kernel
theorem d_MO_take_32 : decode b_MO_take 32 = .ok (.iaload, 1) := by decide +kernel
theorem d_MO_take_33 : decode b_MO_take 33 = .ok (.iastore, 1) := by decide +kernel
theorem d_MO_take_34 : decode b_MO_take 34 = .ok (.aload_n 0, 1) := by decide +kernel
theorem d_MO_take_35 : decode b_MO_take 35 = .ok (.getfield 119, 3) := by decide +kernel
theorem d_MO_take_38 : decode b_MO_take 38 = .ok (.iload_n 2, 1) := by decide +kernel
theorem d_MO_take_39 : decode b_MO_take 39 = .ok (.aload_n 0, 1) := by decide +kernel
theorem d_MO_take_40 : decode b_MO_take 40 = .ok (.getfield 119, 3) := by decide +kernel
theorem d_MO_take_43 : decode b_MO_take 43 = .ok (.iload_n 2, 1) := by decide +kernel
theorem d_MO_take_44 : decode b_MO_take 44 = .ok (.iconst 1, 1) := by decide +kernel
theorem d_MO_take_45 : decode b_MO_take 45 = .ok (.iadd, 1) := by decide +kernel
theorem d_MO_take_46 : decode b_MO_take 46 = .ok (.iaload, 1) := by decide +kernel
theorem d_MO_take_47 : decode b_MO_take 47 = .ok (.iastore, 1) := by decide +kernel
theorem d_MO_take_48 : decode b_MO_take 48 = .ok (.aload_n 0, 1) := by decide +kernel
theorem d_MO_take_49 : decode b_MO_take 49 = .ok (.getfield 122, 3) := by decide +kernel
theorem d_MO_take_52 : decode b_MO_take 52 = .ok (.iload_n 2, 1) := by decide +kernel
theorem d_MO_take_53 : decode b_MO_take 53 = .ok (.aload_n 0, 1) := by decide +kernel
theorem d_MO_take_54 : decode b_MO_take 54 = .ok (.getfield 122, 3) := by decide +kernel
theorem d_MO_take_57 : decode b_MO_take 57 = .ok (.iload_n 2, 1) := by decide +kernel
theorem d_MO_take_58 : decode b_MO_take 58 = .ok (.iconst 1, 1) := by decide +kernel
theorem d_MO_take_59 : decode b_MO_take 59 = .ok (.iadd, 1) := by decide +kernel
theorem d_MO_take_60 : decode b_MO_take 60 = .ok (.iaload, 1) := by decide +kernel
theorem d_MO_take_61 : decode b_MO_take 61 = .ok (.iastore, 1) := by decide +kernel
theorem d_MO_take_62 : decode b_MO_take 62 = .ok (.aload_n 0, 1) := by decide +kernel
theorem d_MO_take_63 : decode b_MO_take 63 = .ok (.getfield 125, 3) := by decide +kernel
theorem d_MO_take_66 : decode b_MO_take 66 = .ok (.iload_n 2, 1) := by decide +kernel
theorem d_MO_take_67 : decode b_MO_take 67 = .ok (.aload_n 0, 1) := by decide +kernel
theorem d_MO_take_68 : decode b_MO_take 68 = .ok (.getfield 125, 3) := by decide +kernel
theorem d_MO_take_71 : decode b_MO_take 71 = .ok (.iload_n 2, 1) := by decide +kernel
theorem d_MO_take_72 : decode b_MO_take 72 = .ok (.iconst 1, 1) := by decide +kernel
theorem d_MO_take_73 : decode b_MO_take 73 = .ok (.iadd, 1) := by decide +kernel
theorem d_MO_take_74 : decode b_MO_take 74 = .ok (.iaload, 1) := by decide +kernel
theorem d_MO_take_75 : decode b_MO_take 75 = .ok (.iastore, 1) := by decide +kernel
theorem d_MO_take_76 : decode b_MO_take 76 = .ok (.aload_n 0, 1) := by decide +kernel
theorem d_MO_take_77 : decode b_MO_take 77 = .ok (.getfield 128, 3) := by decide +kernel
theorem d_MO_take_80 : decode b_MO_take 80 = .ok (.iload_n 2, 1) := by decide +kernel
theorem d_MO_take_81 : decode b_MO_take 81 = .ok (.aload_n 0, 1) := by decide +kernel
theorem d_MO_take_82 : decode b_MO_take 82 = .ok (.getfield 128, 3) := by decide +kernel
theorem d_MO_take_85 : decode b_MO_take 85 = .ok (.iload_n 2, 1) := by decide +kernel
theorem d_MO_take_86 : decode b_MO_take 86 = .ok (.iconst 1, 1) := by decide +kernel
theorem d_MO_take_87 : decode b_MO_take 87 = .ok (.iadd, 1) := by decide +kernel
theorem d_MO_take_88 : decode b_MO_take 88 = .ok (.iaload, 1) := by decide +kernel
theorem d_MO_take_89 : decode b_MO_take 89 = .ok (.iastore, 1) := by decide +kernel
theorem d_MO_take_90 : decode b_MO_take 90 = .ok (.aload_n 0, 1) := by decide +kernel
theorem d_MO_take_91 : decode b_MO_take 91 = .ok (.getfield 131, 3) := by decide +kernel
theorem d_MO_take_94 : decode b_MO_take 94 = .ok (.iload_n 2, 1) := by decide +kernel
theorem d_MO_take_95 : decode b_MO_take 95 = .ok (.aload_n 0, 1) := by decide +kernel
theorem d_MO_take_96 : decode b_MO_take 96 = .ok (.getfield 131, 3) := by decide +kernel
theorem d_MO_take_99 : decode b_MO_take 99 = .ok (.iload_n 2, 1) := by decide +kernel
theorem d_MO_take_100 : decode b_MO_take 100 = .ok (.iconst 1, 1) := by decide +kernel
theorem d_MO_take_101 : decode b_MO_take 101 = .ok (.iadd, 1) := by decide +kernel
theorem d_MO_take_102 : decode b_MO_take 102 = .ok (.iaload, 1) := by decide +kernel
theorem d_MO_take_103 : decode b_MO_take 103 = .ok (.iastore, 1) := by decide +kernel
theorem d_MO_take_104 : decode b_MO_take 104 = .ok (.aload_n 0, 1) := by decide +kernel
theorem d_MO_take_105 : decode b_MO_take 105 = .ok (.getfield 134, 3) := by decide +kernel
theorem d_MO_take_108 : decode b_MO_take 108 = .ok (.iload_n 2, 1) := by decide +kernel
theorem d_MO_take_109 : decode b_MO_take 109 = .ok (.aload_n 0, 1) := by decide +kernel
theorem d_MO_take_110 : decode b_MO_take 110 = .ok (.getfield 134, 3) := by decide +kernel
theorem d_MO_take_113 : decode b_MO_take 113 = .ok (.iload_n 2, 1) := by decide +kernel
theorem d_MO_take_114 : decode b_MO_take 114 = .ok (.iconst 1, 1) := by decide +kernel
theorem d_MO_take_115 : decode b_MO_take 115 = .ok (.iadd, 1) := by decide +kernel
theorem d_MO_take_116 : decode b_MO_take 116 = .ok (.iaload, 1) := by decide +kernel
theorem d_MO_take_117 : decode b_MO_take 117 = .ok (.iastore, 1) := by decide +kernel
theorem d_MO_take_118 : decode b_MO_take 118 = .ok (.aload_n 0, 1) := by decide +kernel
theorem d_MO_take_119 : decode b_MO_take 119 = .ok (.getfield 137, 3) := by decide +kernel
theorem d_MO_take_122 : decode b_MO_take 122 = .ok (.iload_n 2, 1) := by decide +kernel
theorem d_MO_take_123 : decode b_MO_take 123 = .ok (.aload_n 0, 1) := by decide +kernel
theorem d_MO_take_124 : decode b_MO_take 124 = .ok (.getfield 137, 3) := by decide +kernel
theorem d_MO_take_127 : decode b_MO_take 127 = .ok (.iload_n 2, 1) := by decide +kernel
theorem d_MO_take_128 : decode b_MO_take 128 = .ok (.iconst 1, 1) := by decide +kernel
theorem d_MO_take_129 : decode b_MO_take 129 = .ok (.iadd, 1) := by decide +kernel
theorem d_MO_take_130 : decode b_MO_take 130 = .ok (.iaload, 1) := by decide +kernel
theorem d_MO_take_131 : decode b_MO_take 131 = .ok (.iastore, 1) := by decide +kernel
theorem d_MO_take_132 : decode b_MO_take 132 = .ok (.iinc 2 1, 3) := by decide +kernel
theorem d_MO_take_135 : decode b_MO_take 135 = .ok (.goto (-123), 3) := by decide +kernel
theorem d_MO_take_138 : decode b_MO_take 138 = .ok (.return_, 1) := by decide +kernel
theorem d_MO_isAbove_0 : decode b_MO_isAbove 0 = .ok (.aload_n 0, 1) := by decide +kernel
theorem d_MO_isAbove_1 : decode b_MO_isAbove 1 = .ok (.getfield 77, 3) := by decide +kernel
theorem d_MO_isAbove_4 : decode b_MO_isAbove 4 = .ok (.iload_n 1, 1) := by decide +kernel
theorem d_MO_isAbove_5 : decode b_MO_isAbove 5 = .ok (.baload, 1) := by decide +kernel
theorem d_MO_isAbove_6 : decode b_MO_isAbove 6 = .ok (.ifCond .eq 22, 3) := by decide +kernel
theorem d_MO_isAbove_9 : decode b_MO_isAbove 9 = .ok (.aload_n 0, 1) := by decide +kernel
theorem d_MO_isAbove_10 : decode b_MO_isAbove 10 = .ok (.getfield 83, 3) := by decide +kernel
theorem d_MO_isAbove_13 : decode b_MO_isAbove 13 = .ok (.iload_n 1, 1) := by decide +kernel
theorem d_MO_isAbove_14 : decode b_MO_isAbove 14 = .ok (.iaload, 1) := by decide +kernel
theorem d_MO_isAbove_15 : decode b_MO_isAbove 15 = .ok (.aload_n 0, 1) := by decide +kernel
theorem d_MO_isAbove_16 : decode b_MO_isAbove 16 = .ok (.getfield 71, 3) := by decide +kernel
theorem d_MO_isAbove_19 : decode b_MO_isAbove 19 = .ok (.iload_n 1, 1) := by decide +kernel
theorem d_MO_isAbove_20 : decode b_MO_isAbove 20 = .ok (.iaload, 1) := by decide +kernel
theorem d_MO_isAbove_21 : decode b_MO_isAbove 21 = .ok (.if_icmp .le 7, 3) := by decide +kernel
theorem d_MO_isAbove_24 : decode b_MO_isAbove 24 = .ok (.iconst 1, 1) := by decide +kernel
theorem d_MO_isAbove_25 : decode b_MO_isAbove 25 = .ok (.goto 4, 3) := by decide +kernel
theorem d_MO_isAbove_28 : decode b_MO_isAbove 28 = .ok (.iconst 0, 1) := by decide +kernel
theorem d_MO_isAbove_29 : decode b_MO_isAbove 29 = .ok (.ireturn, 1) := by decide +kernel
theorem d_MO_isSo_0 : decode b_MO_isSo 0 = .ok (.aload_n 0, 1) := by decide +kernel
theorem d_MO_isSo_1 : decode b_MO_isSo 1 = .ok (.getfield 68, 3) := by decide +kernel
theorem d_MO_isSo_4 : decode b_MO_isSo 4 = .ok (.iload_n 1, 1) := by decide +kernel
theorem d_MO_isSo_5 : decode b_MO_isSo 5 = .ok (.iaload, 1) := by decide +kernel
theorem d_MO_isSo_6 : decode b_MO_isSo 6 = .ok (.ifCond .le 28, 3) := by decide +kernel
theorem d_MO_isSo_9 : decode b_MO_isSo 9 = .ok (.aload_n 0, 1) := by decide +kernel
theorem d_MO_isSo_10 : decode b_MO_isSo 10 = .ok (.iload_n 1, 1) := by decide +kernel
theorem d_MO_isSo_11 : decode b_MO_isSo 11 = .ok (.invokevirtual 230, 3) := by decide +kernel
theorem d_MO_isSo_14 : decode b_MO_isSo 14 = .ok (.ifCond .eq 20, 3) := by decide +kernel
theorem d_MO_isSo_17 : decode b_MO_isSo 17 = .ok (.aload_n 0, 1) := by decide +kernel
theorem d_MO_isSo_18 : decode b_MO_isSo 18 = .ok (.getfield 223, 3) := by decide +kernel
theorem d_MO_isSo_21 : decode b_MO_isSo 21 = .ok (.aload_n 0, 1) := by decide +kernel
theorem d_MO_isSo_22 : decode b_MO_isSo 22 = .ok (.getfield 95, 3) := by decide +kernel
theorem d_MO_isSo_25 : decode b_MO_isSo 25 = .ok (.iload_n 1, 1) := by decide +kernel
theorem d_MO_isSo_26 : decode b_MO_isSo 26 = .ok (.iaload, 1) := by decide +kernel
theorem d_MO_isSo_27 : decode b_MO_isSo 27 = .ok (.if_icmp .lt 7, 3) := by decide +kernel
theorem d_MO_isSo_30 : decode b_MO_isSo 30 = .ok (.iconst 1, 1) := by decide +kernel
theorem d_MO_isSo_31 : decode b_MO_isSo 31 = .ok (.goto 4, 3) := by decide +kernel
theorem d_MO_isSo_34 : decode b_MO_isSo 34 = .ok (.iconst 0, 1) := by decide +kernel
theorem d_MO_isSo_35 : decode b_MO_isSo 35 = .ok (.ireturn, 1) := by decide +kernel
theorem d_MO_since_0 : decode b_MO_since 0 = .ok (.aload_n 0, 1) := by decide +kernel
theorem d_MO_since_1 : decode b_MO_since 1 = .ok (.getfield 92, 3) := by decide +kernel
theorem d_MO_since_4 : decode b_MO_since 4 = .ok (.iload_n 1, 1) := by decide +kernel
theorem d_MO_since_5 : decode b_MO_since 5 = .ok (.iaload, 1) := by decide +kernel
theorem d_MO_since_6 : decode b_MO_since 6 = .ok (.aload_n 0, 1) := by decide +kernel
theorem d_MO_since_7 : decode b_MO_since 7 = .ok (.getfield 95, 3) := by decide +kernel
theorem d_MO_since_10 : decode b_MO_since 10 = .ok (.iload_n 1, 1) := by decide +kernel
theorem d_MO_since_11 : decode b_MO_since 11 = .ok (.iaload, 1) := by decide +kernel
theorem d_MO_since_12 : decode b_MO_since 12 = .ok (.if_icmp .le 12, 3) := by decide +kernel
theorem d_MO_since_15 : decode b_MO_since 15 = .ok (.aload_n 0, 1) := by decide +kernel
theorem d_MO_since_16 : decode b_MO_since 16 = .ok (.getfield 92, 3) := by decide +kernel
theorem d_MO_since_19 : decode b_MO_since 19 = .ok (.iload_n 1, 1) := by decide +kernel
theorem d_MO_since_20 : decode b_MO_since 20 = .ok (.iaload, 1) := by decide +kernel
theorem d_MO_since_21 : decode b_MO_since 21 = .ok (.goto 9, 3) := by decide +kernel
theorem d_MO_since_24 : decode b_MO_since 24 = .ok (.aload_n 0, 1) := by decide +kernel
theorem d_MO_since_25 : decode b_MO_since 25 = .ok (.getfield 95, 3) := by decide +kernel
theorem d_MO_since_28 : decode b_MO_since 28 = .ok (.iload_n 1, 1) := by decide +kernel
theorem d_MO_since_29 : decode b_MO_since 29 = .ok (.iaload, 1) := by decide +kernel
theorem d_MO_since_30 : decode b_MO_since 30 = .ok (.ireturn, 1) := by decide +kernel
theorem d_MO_settle_0 : decode b_MO_settle 0 = .ok (.iconst 0, 1) := by decide +kernel
theorem d_MO_settle_1 : decode b_MO_settle 1 = .ok (.istore_n 1, 1) := by decide +kernel
theorem d_MO_settle_2 : decode b_MO_settle 2 = .ok (.iload_n 1, 1) := by decide +kernel
theorem d_MO_settle_3 : decode b_MO_settle 3 = .ok (.bipush 8, 2) := by decide +kernel
theorem d_MO_settle_5 : decode b_MO_settle 5 = .ok (.if_icmp .ge 174, 3) := by decide +kernel
theorem d_MO_settle_8 : decode b_MO_settle 8 = .ok (.iconst 0, 1) := by decide +kernel
theorem d_MO_settle_9 : decode b_MO_settle 9 = .ok (.istore_n 2, 1) := by decide +kernel
theorem d_MO_settle_10 : decode b_MO_settle 10 = .ok (.iload_n 2, 1) := by decide +kernel
theorem d_MO_settle_11 : decode b_MO_settle 11 = .ok (.aload_n 0, 1) := by decide +kernel
theorem d_MO_settle_12 : decode b_MO_settle 12 = .ok (.getfield 22, 3) := by decide +kernel
theorem d_MO_settle_15 : decode b_MO_settle 15 = .ok (.iload_n 1, 1) := by decide +kernel
theorem d_MO_settle_16 : decode b_MO_settle 16 = .ok (.iaload, 1) := by decide +kernel
theorem d_MO_settle_17 : decode b_MO_settle 17 = .ok (.if_icmp .ge 156, 3) := by decide +kernel
theorem d_MO_settle_20 : decode b_MO_settle 20 = .ok (.aload_n 0, 1) := by decide +kernel
theorem d_MO_settle_21 : decode b_MO_settle 21 = .ok (.getfield 13, 3) := by decide +kernel
theorem d_MO_settle_24 : decode b_MO_settle 24 = .ok (.iload_n 1, 1) := by decide +kernel
theorem d_MO_settle_25 : decode b_MO_settle 25 = .ok (.iaload, 1) := by decide +kernel
theorem d_MO_settle_26 : decode b_MO_settle 26 = .ok (.iconst 2, 1) := by decide +kernel
theorem d_MO_settle_27 : decode b_MO_settle 27 = .ok (.if_icmp .ne 146, 3) := by decide +kernel
theorem d_MO_settle_30 : decode b_MO_settle 30 = .ok (.iconst 4, 1) := by decide +kernel
theorem d_MO_settle_31 : decode b_MO_settle 31 = .ok (.iload_n 1, 1) := by decide +kernel
theorem d_MO_settle_32 : decode b_MO_settle 32 = .ok (.imul, 1) := by decide +kernel
theorem d_MO_settle_33 : decode b_MO_settle 33 = .ok (.iload_n 2, 1) := by decide +kernel
theorem d_MO_settle_34 : decode b_MO_settle 34 = .ok (.iadd, 1) := by decide +kernel
theorem d_MO_settle_35 : decode b_MO_settle 35 = .ok (.istore_n 3, 1) := by decide +kernel
theorem d_MO_settle_36 : decode b_MO_settle 36 = .ok (.aload_n 0, 1) := by decide +kernel
theorem d_MO_settle_37 : decode b_MO_settle 37 = .ok (.getfield 98, 3) := by decide +kernel
theorem d_MO_settle_40 : decode b_MO_settle 40 = .ok (.iload_n 3, 1) := by decide +kernel
theorem d_MO_settle_41 : decode b_MO_settle 41 = .ok (.baload, 1) := by decide +kernel
theorem d_MO_settle_42 : decode b_MO_settle 42 = .ok (.ifCond .ne 66, 3) := by decide +kernel
theorem d_MO_settle_45 : decode b_MO_settle 45 = .ok (.aload_n 0, 1) := by decide +kernel
theorem d_MO_settle_46 : decode b_MO_settle 46 = .ok (.iload_n 3, 1) := by decide +kernel
theorem d_MO_settle_47 : decode b_MO_settle 47 = .ok (.invokevirtual 233, 3) := by decide +kernel
theorem d_MO_settle_50 : decode b_MO_settle 50 = .ok (.ifCond .eq 58, 3) := by decide +kernel
theorem d_MO_settle_53 : decode b_MO_settle 53 = .ok (.aload_n 0, 1) := by decide +kernel
theorem d_MO_settle_54 : decode b_MO_settle 54 = .ok (.getfield 223, 3) := by decide +kernel
theorem d_MO_settle_57 : decode b_MO_settle 57 = .ok (.aload_n 0, 1) := by decide +kernel
theorem d_MO_settle_58 : decode b_MO_settle 58 = .ok (.iload_n 3, 1) := by decide +kernel
theorem d_MO_settle_59 : decode b_MO_settle 59 = .ok (.invokevirtual 236, 3) := by decide +kernel
theorem d_MO_settle_62 : decode b_MO_settle 62 = .ok (.isub, 1) := by decide +kernel
theorem d_MO_settle_63 : decode b_MO_settle 63 = .ok (.aload_n 0, 1) := by decide +kernel
theorem d_MO_settle_64 : decode b_MO_settle 64 = .ok (.getfield 74, 3) := by decide +kernel
theorem d_MO_settle_67 : decode b_MO_settle 67 = .ok (.iload_n 3, 1) := by decide +kernel
theorem d_MO_settle_68 : decode b_MO_settle 68 = .ok (.iaload, 1) := by decide +kernel
theorem d_MO_settle_69 : decode b_MO_settle 69 = .ok (.if_icmp .lt 39, 3) := by decide +kernel
theorem d_MO_settle_72 : decode b_MO_settle 72 = .ok (.aload_n 0, 1) := by decide +kernel
theorem d_MO_settle_73 : decode b_MO_settle 73 = .ok (.getfield 98, 3) := by decide +kernel
theorem d_MO_settle_76 : decode b_MO_settle 76 = .ok (.iload_n 3, 1) := by decide +kernel
theorem d_MO_settle_77 : decode b_MO_settle 77 = .ok (.iconst 1, 1) := by decide +kernel
theorem d_MO_settle_78 : decode b_MO_settle 78 = .ok (.bastore, 1) := by decide +kernel
theorem d_MO_settle_79 : decode b_MO_settle 79 = .ok (.aload_n 0, 1) := by decide +kernel
theorem d_MO_settle_80 : decode b_MO_settle 80 = .ok (.getfield 101, 3) := by decide +kernel
theorem d_MO_settle_83 : decode b_MO_settle 83 = .ok (.iload_n 3, 1) := by decide +kernel
theorem d_MO_settle_84 : decode b_MO_settle 84 = .ok (.iconst 0, 1) := by decide +kernel
theorem d_MO_settle_85 : decode b_MO_settle 85 = .ok (.bastore, 1) := by decide +kernel
theorem d_MO_settle_86 : decode b_MO_settle 86 = .ok (.aload_n 0, 1) := by decide +kernel
theorem d_MO_settle_87 : decode b_MO_settle 87 = .ok (.getfield 104, 3) := by decide +kernel
theorem d_MO_settle_90 : decode b_MO_settle 90 = .ok (.iload_n 3, 1) := by decide +kernel
theorem d_MO_settle_91 : decode b_MO_settle 91 = .ok (.aload_n 0, 1) := by decide +kernel
theorem d_MO_settle_92 : decode b_MO_settle 92 = .ok (.getfield 223, 3) := by decide +kernel
theorem d_MO_settle_95 : decode b_MO_settle 95 = .ok (.iastore, 1) := by decide +kernel
theorem d_MO_settle_96 : decode b_MO_settle 96 = .ok (.aload_n 0, 1) := by decide +kernel
theorem d_MO_settle_97 : decode b_MO_settle 97 = .ok (.iconst 2, 1) := by decide +kernel
theorem d_MO_settle_98 : decode b_MO_settle 98 = .ok (.iload_n 1, 1) := by decide +kernel
theorem d_MO_settle_99 : decode b_MO_settle 99 = .ok (.iload_n 2, 1) := by decide +kernel
theorem d_MO_settle_100 : decode b_MO_settle 100 = .ok (.iconst 1, 1) := by decide +kernel
theorem d_MO_settle_101 : decode b_MO_settle 101 = .ok (.iconst 0, 1) := by decide +kernel
theorem d_MO_settle_102 : decode b_MO_settle 102 = .ok (.invokevirtual 226, 3) := by decide +kernel
theorem d_MO_settle_105 : decode b_MO_settle 105 = .ok (.goto 62, 3) := by decide +kernel
theorem d_MO_settle_108 : decode b_MO_settle 108 = .ok (.aload_n 0, 1) := by decide +kernel
theorem d_MO_settle_109 : decode b_MO_settle 109 = .ok (.getfield 98, 3) := by decide +kernel
theorem d_MO_settle_112 : decode b_MO_settle 112 = .ok (.iload_n 3, 1) := by decide +kernel
theorem d_MO_settle_113 : decode b_MO_settle 113 = .ok (.baload, 1) := by decide +kernel
theorem d_MO_settle_114 : decode b_MO_settle 114 = .ok (.ifCond .eq 53, 3) := by decide +kernel
theorem d_MO_settle_117 : decode b_MO_settle 117 = .ok (.aload_n 0, 1) := by decide +kernel
theorem d_MO_settle_118 : decode b_MO_settle 118 = .ok (.iload_n 3, 1) := by decide +kernel
theorem d_MO_settle_119 : decode b_MO_settle 119 = .ok (.invokevirtual 233, 3) := by decide +kernel
theorem d_MO_settle_122 : decode b_MO_settle 122 = .ok (.ifCond .ne 45, 3) := by decide +kernel
theorem d_MO_settle_125 : decode b_MO_settle 125 = .ok (.aload_n 0, 1) := by decide +kernel
theorem d_MO_settle_126 : decode b_MO_settle 126 = .ok (.getfield 68, 3) := by decide +kernel
theorem d_MO_settle_129 : decode b_MO_settle 129 = .ok (.iload_n 3, 1) := by decide +kernel
theorem d_MO_settle_130 : decode b_MO_settle 130 = .ok (.iaload, 1) := by decide +kernel
theorem d_MO_settle_131 : decode b_MO_settle 131 = .ok (.iconst 1, 1) := by decide +kernel
theorem d_MO_settle_132 : decode b_MO_settle 132 = .ok (.if_icmp .gt 12, 3) := by decide +kernel
theorem d_MO_settle_135 : decode b_MO_settle 135 = .ok (.aload_n 0, 1) := by decide +kernel
theorem d_MO_settle_136 : decode b_MO_settle 136 = .ok (.getfield 101, 3) := by decide +kernel
theorem d_MO_settle_139 : decode b_MO_settle 139 = .ok (.iload_n 3, 1) := by decide +kernel
theorem d_MO_settle_140 : decode b_MO_settle 140 = .ok (.baload, 1) := by decide +kernel
theorem d_MO_settle_141 : decode b_MO_settle 141 = .ok (.ifCond .eq 26, 3) := by decide +kernel
theorem d_MO_settle_144 : decode b_MO_settle 144 = .ok (.aload_n 0, 1) := by decide +kernel
theorem d_MO_settle_145 : decode b_MO_settle 145 = .ok (.getfield 98, 3) := by decide +kernel
theorem d_MO_settle_148 : decode b_MO_settle 148 = .ok (.iload_n 3, 1) := by decide +kernel
theorem d_MO_settle_149 : decode b_MO_settle 149 = .ok (.iconst 0, 1) := by decide +kernel
theorem d_MO_settle_150 : decode b_MO_settle 150 = .ok (.bastore, 1) := by decide +kernel
theorem d_MO_settle_151 : decode b_MO_settle 151 = .ok (.aload_n 0, 1) := by decide +kernel
theorem d_MO_settle_152 : decode b_MO_settle 152 = .ok (.getfield 101, 3) := by decide +kernel
theorem d_MO_settle_155 : decode b_MO_settle 155 = .ok (.iload_n 3, 1) := by decide +kernel
theorem d_MO_settle_156 : decode b_MO_settle 156 = .ok (.iconst 0, 1) := by decide +kernel
theorem d_MO_settle_157 : decode b_MO_settle 157 = .ok (.bastore, 1) := by decide +kernel
theorem d_MO_settle_158 : decode b_MO_settle 158 = .ok (.aload_n 0, 1) := by decide +kernel
theorem d_MO_settle_159 : decode b_MO_settle 159 = .ok (.iconst 2, 1) := by decide +kernel
theorem d_MO_settle_160 : decode b_MO_settle 160 = .ok (.iload_n 1, 1) := by decide +kernel
theorem d_MO_settle_161 : decode b_MO_settle 161 = .ok (.iload_n 2, 1) := by decide +kernel
theorem d_MO_settle_162 : decode b_MO_settle 162 = .ok (.iconst 0, 1) := by decide +kernel
theorem d_MO_settle_163 : decode b_MO_settle 163 = .ok (.iconst 0, 1) := by decide +kernel
theorem d_MO_settle_164 : decode b_MO_settle 164 = .ok (.invokevirtual 226, 3) := by decide +kernel
theorem d_MO_settle_167 : decode b_MO_settle 167 = .ok (.iinc 2 1, 3) := by decide +kernel
theorem d_MO_settle_170 : decode b_MO_settle 170 = .ok (.goto (-160), 3) := by decide +kernel
theorem d_MO_settle_173 : decode b_MO_settle 173 = .ok (.iinc 1 1, 3) := by decide +kernel
theorem d_MO_settle_176 : decode b_MO_settle 176 = .ok (.goto (-174), 3) := by decide +kernel
theorem d_MO_settle_179 : decode b_MO_settle 179 = .ok (.return_, 1) := by decide +kernel
theorem d_MO_sample_0 : decode b_MO_sample 0 = .ok (.aload_n 0, 1) := by decide +kernel
theorem d_MO_sample_1 : decode b_MO_sample 1 = .ok (.iconst 0, 1) := by decide +kernel
theorem d_MO_sample_2 : decode b_MO_sample 2 = .ok (.putfield 181, 3) := by decide +kernel
theorem d_MO_sample_5 : decode b_MO_sample 5 = .ok (.aload_n 0, 1) := by decide +kernel
theorem d_MO_sample_6 : decode b_MO_sample 6 = .ok (.iload_n 1, 1) := by decide +kernel
theorem d_MO_sample_7 : decode b_MO_sample 7 = .ok (.iconst 2, 1) := by decide +kernel
theorem d_MO_sample_8 : decode b_MO_sample 8 = .ok (.invokevirtual 197, 3) := by decide +kernel
theorem d_MO_sample_11 : decode b_MO_sample 11 = .ok (.ifCond .eq 21, 3) := by decide +kernel
theorem d_MO_sample_14 : decode b_MO_sample 14 = .ok (.aload_n 0, 1) := by decide +kernel
theorem d_MO_sample_15 : decode b_MO_sample 15 = .ok (.getfield 25, 3) := by decide +kernel
theorem d_MO_sample_18 : decode b_MO_sample 18 = .ok (.iload_n 1, 1) := by decide +kernel
theorem d_MO_sample_19 : decode b_MO_sample 19 = .ok (.iaload, 1) := by decide +kernel
theorem d_MO_sample_20 : decode b_MO_sample 20 = .ok (.ifCond .eq 12, 3) := by decide +kernel
theorem d_MO_sample_23 : decode b_MO_sample 23 = .ok (.aload_n 0, 1) := by decide +kernel
theorem d_MO_sample_24 : decode b_MO_sample 24 = .ok (.iload_n 1, 1) := by decide +kernel
theorem d_MO_sample_25 : decode b_MO_sample 25 = .ok (.iload_n 2, 1) := by decide +kernel
theorem d_MO_sample_26 : decode b_MO_sample 26 = .ok (.invokevirtual 205, 3) := by decide +kernel
theorem d_MO_sample_29 : decode b_MO_sample 29 = .ok (.ifCond .ne 5, 3) := by decide +kernel
theorem d_MO_sample_32 : decode b_MO_sample 32 = .ok (.iconst 0, 1) := by decide +kernel
theorem d_MO_sample_33 : decode b_MO_sample 33 = .ok (.ireturn, 1) := by decide +kernel
theorem d_MO_sample_34 : decode b_MO_sample 34 = .ok (.iconst 4, 1) := by decide +kernel
theorem d_MO_sample_35 : decode b_MO_sample 35 = .ok (.iload_n 1, 1) := by decide +kernel
theorem d_MO_sample_36 : decode b_MO_sample 36 = .ok (.imul, 1) := by decide +kernel
theorem d_MO_sample_37 : decode b_MO_sample 37 = .ok (.iload_n 2, 1) := by decide +kernel
theorem d_MO_sample_38 : decode b_MO_sample 38 = .ok (.iadd, 1) := by decide +kernel
theorem d_MO_sample_39 : decode b_MO_sample 39 = .ok (.istore 4, 2) := by decide +kernel
theorem d_MO_sample_41 : decode b_MO_sample 41 = .ok (.iload_n 3, 1) := by decide +kernel
theorem d_MO_sample_42 : decode b_MO_sample 42 = .ok (.aload_n 0, 1) := by decide +kernel
theorem d_MO_sample_43 : decode b_MO_sample 43 = .ok (.getfield 59, 3) := by decide +kernel
theorem d_MO_sample_46 : decode b_MO_sample 46 = .ok (.iload 4, 2) := by decide +kernel
theorem d_MO_sample_48 : decode b_MO_sample 48 = .ok (.iaload, 1) := by decide +kernel
theorem d_MO_sample_49 : decode b_MO_sample 49 = .ok (.aload_n 0, 1) := by decide +kernel
theorem d_MO_sample_50 : decode b_MO_sample 50 = .ok (.getfield 62, 3) := by decide +kernel
theorem d_MO_sample_53 : decode b_MO_sample 53 = .ok (.iload 4, 2) := by decide +kernel
theorem d_MO_sample_55 : decode b_MO_sample 55 = .ok (.iaload, 1) := by decide +kernel
theorem d_MO_sample_56 : decode b_MO_sample 56 = .ok (.aload_n 0, 1) := by decide +kernel
theorem d_MO_sample_57 : decode b_MO_sample 57 = .ok (.getfield 65, 3) := by decide +kernel
theorem d_MO_sample_60 : decode b_MO_sample 60 = .ok (.iload 4, 2) := by decide +kernel
theorem d_MO_sample_62 : decode b_MO_sample 62 = .ok (.iaload, 1) := by decide +kernel
theorem d_MO_sample_63 : decode b_MO_sample 63 = .ok (.invokestatic 240, 3) := by decide +kernel
theorem d_MO_sample_66 : decode b_MO_sample 66 = .ok (.ifCond .ne 5, 3) := by decide +kernel
theorem d_MO_sample_69 : decode b_MO_sample 69 = .ok (.iconst 0, 1) := by decide +kernel
theorem d_MO_sample_70 : decode b_MO_sample 70 = .ok (.ireturn, 1) := by decide +kernel
theorem d_MO_sample_71 : decode b_MO_sample 71 = .ok (.aload_n 0, 1) := by decide +kernel
theorem d_MO_sample_72 : decode b_MO_sample 72 = .ok (.iload 4, 2) := by decide +kernel
theorem d_MO_sample_74 : decode b_MO_sample 74 = .ok (.invokevirtual 230, 3) := by decide +kernel
theorem d_MO_sample_77 : decode b_MO_sample 77 = .ok (.istore 5, 2) := by decide +kernel
theorem d_MO_sample_79 : decode b_MO_sample 79 = .ok (.aload_n 0, 1) := by decide +kernel
theorem d_MO_sample_80 : decode b_MO_sample 80 = .ok (.getfield 77, 3) := by decide +kernel
theorem d_MO_sample_83 : decode b_MO_sample 83 = .ok (.iload 4, 2) := by decide +kernel
theorem d_MO_sample_85 : decode b_MO_sample 85 = .ok (.iconst 1, 1) := by decide +kernel
theorem d_MO_sample_86 : decode b_MO_sample 86 = .ok (.bastore, 1) := by decide +kernel
theorem d_MO_sample_87 : decode b_MO_sample 87 = .ok (.aload_n 0, 1) := by decide +kernel
theorem d_MO_sample_88 : decode b_MO_sample 88 = .ok (.getfield 80, 3) := by decide +kernel
theorem d_MO_sample_91 : decode b_MO_sample 91 = .ok (.iload 4, 2) := by decide +kernel
theorem d_MO_sample_93 : decode b_MO_sample 93 = .ok (.iconst 1, 1) := by decide +kernel
theorem d_MO_sample_94 : decode b_MO_sample 94 = .ok (.bastore, 1) := by decide +kernel
theorem d_MO_sample_95 : decode b_MO_sample 95 = .ok (.aload_n 0, 1) := by decide +kernel
theorem d_MO_sample_96 : decode b_MO_sample 96 = .ok (.getfield 83, 3) := by decide +kernel
theorem d_MO_sample_99 : decode b_MO_sample 99 = .ok (.iload 4, 2) := by decide +kernel
theorem d_MO_sample_101 : decode b_MO_sample 101 = .ok (.iload_n 3, 1) := by decide +kernel
theorem d_MO_sample_102 : decode b_MO_sample 102 = .ok (.iastore, 1) := by decide +kernel
theorem d_MO_sample_103 : decode b_MO_sample 103 = .ok (.aload_n 0, 1) := by decide +kernel
theorem d_MO_sample_104 : decode b_MO_sample 104 = .ok (.getfield 86, 3) := by decide +kernel
theorem d_MO_sample_107 : decode b_MO_sample 107 = .ok (.iload 4, 2) := by decide +kernel
theorem d_MO_sample_109 : decode b_MO_sample 109 = .ok (.aload_n 0, 1) := by decide +kernel
theorem d_MO_sample_110 : decode b_MO_sample 110 = .ok (.getfield 223, 3) := by decide +kernel
theorem d_MO_sample_113 : decode b_MO_sample 113 = .ok (.iastore, 1) := by decide +kernel
theorem d_MO_sample_114 : decode b_MO_sample 114 = .ok (.aload_n 0, 1) := by decide +kernel
theorem d_MO_sample_115 : decode b_MO_sample 115 = .ok (.getfield 92, 3) := by decide +kernel
theorem d_MO_sample_118 : decode b_MO_sample 118 = .ok (.iload 4, 2) := by decide +kernel
theorem d_MO_sample_120 : decode b_MO_sample 120 = .ok (.iload 5, 2) := by decide +kernel
theorem d_MO_sample_122 : decode b_MO_sample 122 = .ok (.ifCond .eq 13, 3) := by decide +kernel
theorem d_MO_sample_125 : decode b_MO_sample 125 = .ok (.aload_n 0, 1) := by decide +kernel
theorem d_MO_sample_126 : decode b_MO_sample 126 = .ok (.getfield 92, 3) := by decide +kernel
theorem d_MO_sample_129 : decode b_MO_sample 129 = .ok (.iload 4, 2) := by decide +kernel
theorem d_MO_sample_131 : decode b_MO_sample 131 = .ok (.iaload, 1) := by decide +kernel
theorem d_MO_sample_132 : decode b_MO_sample 132 = .ok (.goto 7, 3) := by decide +kernel
theorem d_MO_sample_135 : decode b_MO_sample 135 = .ok (.aload_n 0, 1) := by decide +kernel
theorem d_MO_sample_136 : decode b_MO_sample 136 = .ok (.getfield 223, 3) := by decide +kernel
theorem d_MO_sample_139 : decode b_MO_sample 139 = .ok (.iastore, 1) := by decide +kernel
theorem d_MO_sample_140 : decode b_MO_sample 140 = .ok (.aload_n 0, 1) := by decide +kernel
theorem d_MO_sample_141 : decode b_MO_sample 141 = .ok (.iload_n 1, 1) := by decide +kernel
theorem d_MO_sample_142 : decode b_MO_sample 142 = .ok (.iload_n 2, 1) := by decide +kernel
theorem d_MO_sample_143 : decode b_MO_sample 143 = .ok (.invokevirtual 244, 3) := by decide +kernel
theorem d_MO_sample_146 : decode b_MO_sample 146 = .ok (.aload_n 0, 1) := by decide +kernel
theorem d_MO_sample_147 : decode b_MO_sample 147 = .ok (.invokevirtual 211, 3) := by decide +kernel
theorem d_MO_sample_150 : decode b_MO_sample 150 = .ok (.iconst 1, 1) := by decide +kernel
theorem d_MO_sample_151 : decode b_MO_sample 151 = .ok (.ireturn, 1) := by decide +kernel
theorem d_MO_knowsLoud_0 : decode b_MO_knowsLoud 0 = .ok (.iconst 0, 1) := by decide +kernel
theorem d_MO_knowsLoud_1 : decode b_MO_knowsLoud 1 = .ok (.istore_n 2, 1) := by decide +kernel
theorem d_MO_knowsLoud_2 : decode b_MO_knowsLoud 2 = .ok (.iconst 4, 1) := by decide +kernel
theorem d_MO_knowsLoud_3 : decode b_MO_knowsLoud 3 = .ok (.iload_n 1, 1) := by decide +kernel
theorem d_MO_knowsLoud_4 : decode b_MO_knowsLoud 4 = .ok (.imul, 1) := by decide +kernel
theorem d_MO_knowsLoud_5 : decode b_MO_knowsLoud 5 = .ok (.istore_n 3, 1) := by decide +kernel
theorem d_MO_knowsLoud_6 : decode b_MO_knowsLoud 6 = .ok (.iload_n 3, 1) := by decide +kernel
theorem d_MO_knowsLoud_7 : decode b_MO_knowsLoud 7 = .ok (.iconst 4, 1) := by decide +kernel
theorem d_MO_knowsLoud_8 : decode b_MO_knowsLoud 8 = .ok (.iload_n 1, 1) := by decide +kernel
theorem d_MO_knowsLoud_9 : decode b_MO_knowsLoud 9 = .ok (.imul, 1) := by decide +kernel
theorem d_MO_knowsLoud_10 : decode b_MO_knowsLoud 10 = .ok (.iconst 4, 1) := by decide +kernel
theorem d_MO_knowsLoud_11 : decode b_MO_knowsLoud 11 = .ok (.iadd, 1) := by decide +kernel
theorem d_MO_knowsLoud_12 : decode b_MO_knowsLoud 12 = .ok (.if_icmp .ge 29, 3) := by decide +kernel
theorem d_MO_knowsLoud_15 : decode b_MO_knowsLoud 15 = .ok (.iload_n 2, 1) := by decide +kernel
theorem d_MO_knowsLoud_16 : decode b_MO_knowsLoud 16 = .ok (.ifCond .ne 13, 3) := by decide +kernel
theorem d_MO_knowsLoud_19 : decode b_MO_knowsLoud 19 = .ok (.aload_n 0, 1) := by decide +kernel
theorem d_MO_knowsLoud_20 : decode b_MO_knowsLoud 20 = .ok (.getfield 107, 3) := by decide +kernel
theorem d_MO_knowsLoud_23 : decode b_MO_knowsLoud 23 = .ok (.iload_n 3, 1) := by decide +kernel
theorem d_MO_knowsLoud_24 : decode b_MO_knowsLoud 24 = .ok (.iaload, 1) := by decide +kernel
theorem d_MO_knowsLoud_25 : decode b_MO_knowsLoud 25 = .ok (.iconst 2, 1) := by decide +kernel
theorem d_MO_knowsLoud_26 : decode b_MO_knowsLoud 26 = .ok (.if_icmp .ne 7, 3) := by decide +kernel
theorem d_MO_knowsLoud_29 : decode b_MO_knowsLoud 29 = .ok (.iconst 1, 1) := by decide +kernel
theorem d_MO_knowsLoud_30 : decode b_MO_knowsLoud 30 = .ok (.goto 4, 3) := by decide +kernel
theorem d_MO_knowsLoud_33 : decode b_MO_knowsLoud 33 = .ok (.iconst 0, 1) := by decide +kernel
theorem d_MO_knowsLoud_34 : decode b_MO_knowsLoud 34 = .ok (.istore_n 2, 1) := by decide +kernel
theorem d_MO_knowsLoud_35 : decode b_MO_knowsLoud 35 = .ok (.iinc 3 1, 3) := by decide +kernel
theorem d_MO_knowsLoud_38 : decode b_MO_knowsLoud 38 = .ok (.goto (-32), 3) := by decide +kernel
theorem d_MO_knowsLoud_41 : decode b_MO_knowsLoud 41 = .ok (.iload_n 2, 1) := by decide +kernel
theorem d_MO_knowsLoud_42 : decode b_MO_knowsLoud 42 = .ok (.ireturn, 1) := by decide +kernel
theorem d_MO_tick_0 : decode b_MO_tick 0 = .ok (.aload_n 0, 1) := by decide +kernel
theorem d_MO_tick_1 : decode b_MO_tick 1 = .ok (.iload_n 1, 1) := by decide +kernel
theorem d_MO_tick_2 : decode b_MO_tick 2 = .ok (.iconst 1, 1) := by decide +kernel
theorem d_MO_tick_3 : decode b_MO_tick 3 = .ok (.if_icmp .lt 21, 3) := by decide +kernel
theorem d_MO_tick_6 : decode b_MO_tick 6 = .ok (.iload_n 1, 1) := by decide +kernel
theorem d_MO_tick_7 : decode b_MO_tick 7 = .ok (.sipush 10000, 3) := by decide +kernel
theorem d_MO_tick_10 : decode b_MO_tick 10 = .ok (.if_icmp .gt 14, 3) := by decide +kernel
theorem d_MO_tick_13 : decode b_MO_tick 13 = .ok (.aload_n 0, 1) := by decide +kernel
theorem d_MO_tick_14 : decode b_MO_tick 14 = .ok (.getfield 223, 3) := by decide +kernel
theorem d_MO_tick_17 : decode b_MO_tick 17 = .ok (.iload_n 1, 1) := by decide +kernel
theorem d_MO_tick_18 : decode b_MO_tick 18 = .ok (.iadd, 1) := by decide +kernel
theorem d_MO_tick_19 : decode b_MO_tick 19 = .ok (.ldc 248, 2) := by decide +kernel
theorem d_MO_tick_21 : decode b_MO_tick 21 = .ok (.if_icmp .le 7, 3) := by decide +kernel
theorem d_MO_tick_24 : decode b_MO_tick 24 = .ok (.iconst 1, 1) := by decide +kernel
theorem d_MO_tick_25 : decode b_MO_tick 25 = .ok (.goto 4, 3) := by decide +kernel
theorem d_MO_tick_28 : decode b_MO_tick 28 = .ok (.iconst 0, 1) := by decide +kernel
theorem d_MO_tick_29 : decode b_MO_tick 29 = .ok (.putfield 181, 3) := by decide +kernel
theorem d_MO_tick_32 : decode b_MO_tick 32 = .ok (.aload_n 0, 1) := by decide +kernel
theorem d_MO_tick_33 : decode b_MO_tick 33 = .ok (.getfield 181, 3) := by decide +kernel
theorem d_MO_tick_36 : decode b_MO_tick 36 = .ok (.ifCond .le 5, 3) := by decide +kernel
theorem d_MO_tick_39 : decode b_MO_tick 39 = .ok (.iconst 0, 1) := by decide +kernel
theorem d_MO_tick_40 : decode b_MO_tick 40 = .ok (.ireturn, 1) := by decide +kernel
theorem d_MO_tick_41 : decode b_MO_tick 41 = .ok (.aload_n 0, 1) := by decide +kernel
theorem d_MO_tick_42 : decode b_MO_tick 42 = .ok (.getfield 217, 3) := by decide +kernel
theorem d_MO_tick_45 : decode b_MO_tick 45 = .ok (.istore_n 2, 1) := by decide +kernel
theorem d_MO_tick_46 : decode b_MO_tick 46 = .ok (.aload_n 0, 1) := by decide +kernel
theorem d_MO_tick_47 : decode b_MO_tick 47 = .ok (.dup, 1) := by decide +kernel
theorem d_MO_tick_48 : decode b_MO_tick 48 = .ok (.getfield 223, 3) := by decide +kernel
theorem d_MO_tick_51 : decode b_MO_tick 51 = .ok (.iload_n 1, 1) := by decide +kernel
theorem d_MO_tick_52 : decode b_MO_tick 52 = .ok (.iadd, 1) := by decide +kernel
theorem d_MO_tick_53 : decode b_MO_tick 53 = .ok (.putfield 223, 3) := by decide +kernel
theorem d_MO_tick_56 : decode b_MO_tick 56 = .ok (.iconst 0, 1) := by decide +kernel
theorem d_MO_tick_57 : decode b_MO_tick 57 = .ok (.istore_n 3, 1) := by decide +kernel
theorem d_MO_tick_58 : decode b_MO_tick 58 = .ok (.iload_n 3, 1) := by decide +kernel
theorem d_MO_tick_59 : decode b_MO_tick 59 = .ok (.bipush 8, 2) := by decide +kernel
theorem d_MO_tick_61 : decode b_MO_tick 61 = .ok (.if_icmp .ge 81, 3) := by decide +kernel
theorem d_MO_tick_64 : decode b_MO_tick 64 = .ok (.iconst 0, 1) := by decide +kernel
theorem d_MO_tick_65 : decode b_MO_tick 65 = .ok (.istore 4, 2) := by decide +kernel
theorem d_MO_tick_67 : decode b_MO_tick 67 = .ok (.iload 4, 2) := by decide +kernel
theorem d_MO_tick_69 : decode b_MO_tick 69 = .ok (.aload_n 0, 1) := by decide +kernel
theorem d_MO_tick_70 : decode b_MO_tick 70 = .ok (.getfield 22, 3) := by decide +kernel
theorem d_MO_tick_73 : decode b_MO_tick 73 = .ok (.iload_n 3, 1) := by decide +kernel
theorem d_MO_tick_74 : decode b_MO_tick 74 = .ok (.iaload, 1) := by decide +kernel
theorem d_MO_tick_75 : decode b_MO_tick 75 = .ok (.if_icmp .ge 61, 3) := by decide +kernel
theorem d_MO_tick_78 : decode b_MO_tick 78 = .ok (.aload_n 0, 1) := by decide +kernel
theorem d_MO_tick_79 : decode b_MO_tick 79 = .ok (.getfield 25, 3) := by decide +kernel
theorem d_MO_tick_82 : decode b_MO_tick 82 = .ok (.iload_n 3, 1) := by decide +kernel
theorem d_MO_tick_83 : decode b_MO_tick 83 = .ok (.iaload, 1) := by decide +kernel
theorem d_MO_tick_84 : decode b_MO_tick 84 = .ok (.ifCond .eq 52, 3) := by decide +kernel
theorem d_MO_tick_87 : decode b_MO_tick 87 = .ok (.aload_n 0, 1) := by decide +kernel
theorem d_MO_tick_88 : decode b_MO_tick 88 = .ok (.getfield 80, 3) := by decide +kernel
theorem d_MO_tick_91 : decode b_MO_tick 91 = .ok (.iconst 4, 1) := by decide +kernel
theorem d_MO_tick_92 : decode b_MO_tick 92 = .ok (.iload_n 3, 1) := by decide +kernel
theorem d_MO_tick_93 : decode b_MO_tick 93 = .ok (.imul, 1) := by decide +kernel
theorem d_MO_tick_94 : decode b_MO_tick 94 = .ok (.iload 4, 2) := by decide +kernel
theorem d_MO_tick_96 : decode b_MO_tick 96 = .ok (.iadd, 1) := by decide +kernel
theorem d_MO_tick_97 : decode b_MO_tick 97 = .ok (.baload, 1) := by decide +kernel
theorem d_MO_tick_98 : decode b_MO_tick 98 = .ok (.ifCond .eq 32, 3) := by decide +kernel
theorem d_MO_tick_101 : decode b_MO_tick 101 = .ok (.aload_n 0, 1) := by decide +kernel
theorem d_MO_tick_102 : decode b_MO_tick 102 = .ok (.getfield 223, 3) := by decide +kernel
theorem d_MO_tick_105 : decode b_MO_tick 105 = .ok (.aload_n 0, 1) := by decide +kernel
theorem d_MO_tick_106 : decode b_MO_tick 106 = .ok (.getfield 89, 3) := by decide +kernel
theorem d_MO_tick_109 : decode b_MO_tick 109 = .ok (.iconst 4, 1) := by decide +kernel
theorem d_MO_tick_110 : decode b_MO_tick 110 = .ok (.iload_n 3, 1) := by decide +kernel
theorem d_MO_tick_111 : decode b_MO_tick 111 = .ok (.imul, 1) := by decide +kernel
theorem d_MO_tick_112 : decode b_MO_tick 112 = .ok (.iload 4, 2) := by decide +kernel
theorem d_MO_tick_114 : decode b_MO_tick 114 = .ok (.iadd, 1) := by decide +kernel
theorem d_MO_tick_115 : decode b_MO_tick 115 = .ok (.iaload, 1) := by decide +kernel
theorem d_MO_tick_116 : decode b_MO_tick 116 = .ok (.isub, 1) := by decide +kernel
theorem d_MO_tick_117 : decode b_MO_tick 117 = .ok (.sipush 1000, 3) := by decide +kernel
theorem d_MO_tick_120 : decode b_MO_tick 120 = .ok (.if_icmp .lt 10, 3) := by decide +kernel
theorem d_MO_tick_123 : decode b_MO_tick 123 = .ok (.aload_n 0, 1) := by decide +kernel
theorem d_MO_tick_124 : decode b_MO_tick 124 = .ok (.iload_n 3, 1) := by decide +kernel
theorem d_MO_tick_125 : decode b_MO_tick 125 = .ok (.iload 4, 2) := by decide +kernel
theorem d_MO_tick_127 : decode b_MO_tick 127 = .ok (.invokevirtual 244, 3) := by decide +kernel
theorem d_MO_tick_130 : decode b_MO_tick 130 = .ok (.iinc 4 1, 3) := by decide +kernel
theorem d_MO_tick_133 : decode b_MO_tick 133 = .ok (.goto (-66), 3) := by decide +kernel
theorem d_MO_tick_136 : decode b_MO_tick 136 = .ok (.iinc 3 1, 3) := by decide +kernel
theorem d_MO_tick_139 : decode b_MO_tick 139 = .ok (.goto (-81), 3) := by decide +kernel
theorem d_MO_tick_142 : decode b_MO_tick 142 = .ok (.aload_n 0, 1) := by decide +kernel
theorem d_MO_tick_143 : decode b_MO_tick 143 = .ok (.invokevirtual 211, 3) := by decide +kernel
theorem d_MO_tick_146 : decode b_MO_tick 146 = .ok (.iconst 0, 1) := by decide +kernel
theorem d_MO_tick_147 : decode b_MO_tick 147 = .ok (.istore_n 3, 1) := by decide +kernel
theorem d_MO_tick_148 : decode b_MO_tick 148 = .ok (.iload_n 3, 1) := by decide +kernel
theorem d_MO_tick_149 : decode b_MO_tick 149 = .ok (.bipush 8, 2) := by decide +kernel
theorem d_MO_tick_151 : decode b_MO_tick 151 = .ok (.if_icmp .ge 39, 3) := by decide +kernel
theorem d_MO_tick_154 : decode b_MO_tick 154 = .ok (.aload_n 0, 1) := by decide +kernel
theorem d_MO_tick_155 : decode b_MO_tick 155 = .ok (.iload_n 3, 1) := by decide +kernel
theorem d_MO_tick_156 : decode b_MO_tick 156 = .ok (.invokevirtual 249, 3) := by decide +kernel
theorem d_MO_tick_159 : decode b_MO_tick 159 = .ok (.ifCond .eq 25, 3) := by decide +kernel
theorem d_MO_tick_162 : decode b_MO_tick 162 = .ok (.aload_n 0, 1) := by decide +kernel
theorem d_MO_tick_163 : decode b_MO_tick 163 = .ok (.getfield 223, 3) := by decide +kernel
theorem d_MO_tick_166 : decode b_MO_tick 166 = .ok (.aload_n 0, 1) := by decide +kernel
theorem d_MO_tick_167 : decode b_MO_tick 167 = .ok (.getfield 113, 3) := by decide +kernel
theorem d_MO_tick_170 : decode b_MO_tick 170 = .ok (.iload_n 3, 1) := by decide +kernel
theorem d_MO_tick_171 : decode b_MO_tick 171 = .ok (.iaload, 1) := by decide +kernel
theorem d_MO_tick_172 : decode b_MO_tick 172 = .ok (.isub, 1) := by decide +kernel
theorem d_MO_tick_173 : decode b_MO_tick 173 = .ok (.sipush 1000, 3) := by decide +kernel
theorem d_MO_tick_176 : decode b_MO_tick 176 = .ok (.if_icmp .lt 8, 3) := by decide +kernel
theorem d_MO_tick_179 : decode b_MO_tick 179 = .ok (.aload_n 0, 1) := by decide +kernel
theorem d_MO_tick_180 : decode b_MO_tick 180 = .ok (.iload_n 3, 1) := by decide +kernel
theorem d_MO_tick_181 : decode b_MO_tick 181 = .ok (.invokevirtual 252, 3) := by decide +kernel
theorem d_MO_tick_184 : decode b_MO_tick 184 = .ok (.iinc 3 1, 3) := by decide +kernel
theorem d_MO_tick_187 : decode b_MO_tick 187 = .ok (.goto (-39), 3) := by decide +kernel
theorem d_MO_tick_190 : decode b_MO_tick 190 = .ok (.aload_n 0, 1) := by decide +kernel
theorem d_MO_tick_191 : decode b_MO_tick 191 = .ok (.getfield 217, 3) := by decide +kernel
theorem d_MO_tick_194 : decode b_MO_tick 194 = .ok (.iload_n 2, 1) := by decide +kernel
theorem d_MO_tick_195 : decode b_MO_tick 195 = .ok (.isub, 1) := by decide +kernel
theorem d_MO_tick_196 : decode b_MO_tick 196 = .ok (.ireturn, 1) := by decide +kernel
theorem d_MO_shows_0 : decode b_MO_shows 0 = .ok (.iconst 0, 1) := by decide +kernel
theorem d_MO_shows_1 : decode b_MO_shows 1 = .ok (.istore 7, 2) := by decide +kernel
theorem d_MO_shows_3 : decode b_MO_shows 3 = .ok (.iload 7, 2) := by decide +kernel
theorem d_MO_shows_5 : decode b_MO_shows 5 = .ok (.aload_n 0, 1) := by decide +kernel
theorem d_MO_shows_6 : decode b_MO_shows 6 = .ok (.getfield 255, 3) := by decide +kernel
theorem d_MO_shows_9 : decode b_MO_shows 9 = .ok (.if_icmp .ge 91, 3) := by decide +kernel
theorem d_MO_shows_12 : decode b_MO_shows 12 = .ok (.aload_n 0, 1) := by decide +kernel
theorem d_MO_shows_13 : decode b_MO_shows 13 = .ok (.getfield 140, 3) := by decide +kernel
theorem d_MO_shows_16 : decode b_MO_shows 16 = .ok (.iload 7, 2) := by decide +kernel
theorem d_MO_shows_18 : decode b_MO_shows 18 = .ok (.iaload, 1) := by decide +kernel
theorem d_MO_shows_19 : decode b_MO_shows 19 = .ok (.iload_n 2, 1) := by decide +kernel
theorem d_MO_shows_20 : decode b_MO_shows 20 = .ok (.if_icmp .ne 74, 3) := by decide +kernel
theorem d_MO_shows_23 : decode b_MO_shows 23 = .ok (.aload_n 0, 1) := by decide +kernel
theorem d_MO_shows_24 : decode b_MO_shows 24 = .ok (.getfield 143, 3) := by decide +kernel
theorem d_MO_shows_27 : decode b_MO_shows 27 = .ok (.iload 7, 2) := by decide +kernel
theorem d_MO_shows_29 : decode b_MO_shows 29 = .ok (.iaload, 1) := by decide +kernel
theorem d_MO_shows_30 : decode b_MO_shows 30 = .ok (.iload_n 3, 1) := by decide +kernel
theorem d_MO_shows_31 : decode b_MO_shows 31 = .ok (.if_icmp .ne 63, 3) := by decide +kernel
theorem d_MO_shows_34 : decode b_MO_shows 34 = .ok (.aload_n 0, 1) := by decide +kernel
theorem d_MO_shows_35 : decode b_MO_shows 35 = .ok (.getfield 146, 3) := by decide +kernel
theorem d_MO_shows_38 : decode b_MO_shows 38 = .ok (.iload 7, 2) := by decide +kernel
theorem d_MO_shows_40 : decode b_MO_shows 40 = .ok (.iaload, 1) := by decide +kernel
theorem d_MO_shows_41 : decode b_MO_shows 41 = .ok (.iload 6, 2) := by decide +kernel
theorem d_MO_shows_43 : decode b_MO_shows 43 = .ok (.if_icmp .ne 51, 3) := by decide +kernel
theorem d_MO_shows_46 : decode b_MO_shows 46 = .ok (.iload_n 1, 1) := by decide +kernel
theorem d_MO_shows_47 : decode b_MO_shows 47 = .ok (.aload_n 0, 1) := by decide +kernel
theorem d_MO_shows_48 : decode b_MO_shows 48 = .ok (.getfield 149, 3) := by decide +kernel
theorem d_MO_shows_51 : decode b_MO_shows 51 = .ok (.iload 7, 2) := by decide +kernel
theorem d_MO_shows_53 : decode b_MO_shows 53 = .ok (.iaload, 1) := by decide +kernel
theorem d_MO_shows_54 : decode b_MO_shows 54 = .ok (.if_icmp .le 40, 3) := by decide +kernel
theorem d_MO_shows_57 : decode b_MO_shows 57 = .ok (.aload_n 0, 1) := by decide +kernel
theorem d_MO_shows_58 : decode b_MO_shows 58 = .ok (.getfield 149, 3) := by decide +kernel
theorem d_MO_shows_61 : decode b_MO_shows 61 = .ok (.iload 7, 2) := by decide +kernel
theorem d_MO_shows_63 : decode b_MO_shows 63 = .ok (.iload_n 1, 1) := by decide +kernel
theorem d_MO_shows_64 : decode b_MO_shows 64 = .ok (.iastore, 1) := by decide +kernel
theorem d_MO_shows_65 : decode b_MO_shows 65 = .ok (.aload_n 0, 1) := by decide +kernel
theorem d_MO_shows_66 : decode b_MO_shows 66 = .ok (.getfield 152, 3) := by decide +kernel
theorem d_MO_shows_69 : decode b_MO_shows 69 = .ok (.iload 7, 2) := by decide +kernel
theorem d_MO_shows_71 : decode b_MO_shows 71 = .ok (.iload 4, 2) := by decide +kernel
theorem d_MO_shows_73 : decode b_MO_shows 73 = .ok (.iastore, 1) := by decide +kernel
theorem d_MO_shows_74 : decode b_MO_shows 74 = .ok (.aload_n 0, 1) := by decide +kernel
theorem d_MO_shows_75 : decode b_MO_shows 75 = .ok (.getfield 155, 3) := by decide +kernel
theorem d_MO_shows_78 : decode b_MO_shows 78 = .ok (.iload 7, 2) := by decide +kernel
theorem d_MO_shows_80 : decode b_MO_shows 80 = .ok (.iload 5, 2) := by decide +kernel
theorem d_MO_shows_82 : decode b_MO_shows 82 = .ok (.iastore, 1) := by decide +kernel
theorem d_MO_shows_83 : decode b_MO_shows 83 = .ok (.aload_n 0, 1) := by decide +kernel
theorem d_MO_shows_84 : decode b_MO_shows 84 = .ok (.getfield 158, 3) := by decide +kernel
theorem d_MO_shows_87 : decode b_MO_shows 87 = .ok (.iload 7, 2) := by decide +kernel
theorem d_MO_shows_89 : decode b_MO_shows 89 = .ok (.aload_n 0, 1) := by decide +kernel
theorem d_MO_shows_90 : decode b_MO_shows 90 = .ok (.getfield 223, 3) := by decide +kernel
theorem d_MO_shows_93 : decode b_MO_shows 93 = .ok (.iastore, 1) := by decide +kernel
theorem d_MO_shows_94 : decode b_MO_shows 94 = .ok (.iinc 7 1, 3) := by decide +kernel
theorem d_MO_shows_97 : decode b_MO_shows 97 = .ok (.goto (-94), 3) := by decide +kernel
theorem d_MO_shows_100 : decode b_MO_shows 100 = .ok (.return_, 1) := by decide +kernel
theorem d_MO_knows_0 : decode b_MO_knows 0 = .ok (.iload_n 1, 1) := by decide +kernel
theorem d_MO_knows_1 : decode b_MO_knows 1 = .ok (.aload_n 0, 1) := by decide +kernel
theorem d_MO_knows_2 : decode b_MO_knows 2 = .ok (.getfield 110, 3) := by decide +kernel
theorem d_MO_knows_5 : decode b_MO_knows 5 = .ok (.iload_n 3, 1) := by decide +kernel
theorem d_MO_knows_6 : decode b_MO_knows 6 = .ok (.iaload, 1) := by decide +kernel
theorem d_MO_knows_7 : decode b_MO_knows 7 = .ok (.if_icmp .gt 13, 3) := by decide +kernel
theorem d_MO_knows_10 : decode b_MO_knows 10 = .ok (.aload_n 0, 1) := by decide +kernel
theorem d_MO_knows_11 : decode b_MO_knows 11 = .ok (.getfield 107, 3) := by decide +kernel
theorem d_MO_knows_14 : decode b_MO_knows 14 = .ok (.iload_n 3, 1) := by decide +kernel
theorem d_MO_knows_15 : decode b_MO_knows 15 = .ok (.iaload, 1) := by decide +kernel
theorem d_MO_knows_16 : decode b_MO_knows 16 = .ok (.ifCond .le 4, 3) := by decide +kernel
theorem d_MO_knows_19 : decode b_MO_knows 19 = .ok (.return_, 1) := by decide +kernel
theorem d_MO_knows_20 : decode b_MO_knows 20 = .ok (.aload_n 0, 1) := by decide +kernel
theorem d_MO_knows_21 : decode b_MO_knows 21 = .ok (.getfield 110, 3) := by decide +kernel
theorem d_MO_knows_24 : decode b_MO_knows 24 = .ok (.iload_n 3, 1) := by decide +kernel
theorem d_MO_knows_25 : decode b_MO_knows 25 = .ok (.iload_n 1, 1) := by decide +kernel
theorem d_MO_knows_26 : decode b_MO_knows 26 = .ok (.iastore, 1) := by decide +kernel
theorem d_MO_knows_27 : decode b_MO_knows 27 = .ok (.aload_n 0, 1) := by decide +kernel
theorem d_MO_knows_28 : decode b_MO_knows 28 = .ok (.getfield 107, 3) := by decide +kernel
theorem d_MO_knows_31 : decode b_MO_knows 31 = .ok (.iload_n 3, 1) := by decide +kernel
theorem d_MO_knows_32 : decode b_MO_knows 32 = .ok (.iload 4, 2) := by decide +kernel
theorem d_MO_knows_34 : decode b_MO_knows 34 = .ok (.iconst 1, 1) := by decide +kernel
theorem d_MO_knows_35 : decode b_MO_knows 35 = .ok (.if_icmp .ne 7, 3) := by decide +kernel
theorem d_MO_knows_38 : decode b_MO_knows 38 = .ok (.iconst 2, 1) := by decide +kernel
theorem d_MO_knows_39 : decode b_MO_knows 39 = .ok (.goto 4, 3) := by decide +kernel
theorem d_MO_knows_42 : decode b_MO_knows 42 = .ok (.iconst 1, 1) := by decide +kernel
theorem d_MO_knows_43 : decode b_MO_knows 43 = .ok (.iastore, 1) := by decide +kernel
theorem d_MO_knows_44 : decode b_MO_knows 44 = .ok (.iload 4, 2) := by decide +kernel
theorem d_MO_knows_46 : decode b_MO_knows 46 = .ok (.iconst 1, 1) := by decide +kernel
theorem d_MO_knows_47 : decode b_MO_knows 47 = .ok (.if_icmp .ne 8, 3) := by decide +kernel
theorem d_MO_knows_50 : decode b_MO_knows 50 = .ok (.aload_n 0, 1) := by decide +kernel
theorem d_MO_knows_51 : decode b_MO_knows 51 = .ok (.iload_n 2, 1) := by decide +kernel
theorem d_MO_knows_52 : decode b_MO_knows 52 = .ok (.invokevirtual 252, 3) := by decide +kernel
theorem d_MO_knows_55 : decode b_MO_knows 55 = .ok (.return_, 1) := by decide +kernel
theorem d_MO_judged_0 : decode b_MO_judged 0 = .ok (.iload_n 3, 1) := by decide +kernel
theorem d_MO_judged_1 : decode b_MO_judged 1 = .ok (.aload_n 0, 1) := by decide +kernel
theorem d_MO_judged_2 : decode b_MO_judged 2 = .ok (.getfield 19, 3) := by decide +kernel
theorem d_MO_judged_5 : decode b_MO_judged 5 = .ok (.iload_n 1, 1) := by decide +kernel
theorem d_MO_judged_6 : decode b_MO_judged 6 = .ok (.iaload, 1) := by decide +kernel
theorem d_MO_judged_7 : decode b_MO_judged 7 = .ok (.if_icmp .eq 5, 3) := by decide +kernel
theorem d_MO_judged_10 : decode b_MO_judged 10 = .ok (.iconst 1, 1) := by decide +kernel
theorem d_MO_judged_11 : decode b_MO_judged 11 = .ok (.ireturn, 1) := by decide +kernel
theorem d_MO_judged_12 : decode b_MO_judged 12 = .ok (.aload_n 0, 1) := by decide +kernel
theorem d_MO_judged_13 : decode b_MO_judged 13 = .ok (.getfield 47, 3) := by decide +kernel
theorem d_MO_judged_16 : decode b_MO_judged 16 = .ok (.iload_n 1, 1) := by decide +kernel
theorem d_MO_judged_17 : decode b_MO_judged 17 = .ok (.iaload, 1) := by decide +kernel
theorem d_MO_judged_18 : decode b_MO_judged 18 = .ok (.aload_n 0, 1) := by decide +kernel
theorem d_MO_judged_19 : decode b_MO_judged 19 = .ok (.getfield 161, 3) := by decide +kernel
theorem d_MO_judged_22 : decode b_MO_judged 22 = .ok (.iload_n 2, 1) := by decide +kernel
theorem d_MO_judged_23 : decode b_MO_judged 23 = .ok (.iaload, 1) := by decide +kernel
theorem d_MO_judged_24 : decode b_MO_judged 24 = .ok (.if_icmp .ne 20, 3) := by decide +kernel
theorem d_MO_judged_27 : decode b_MO_judged 27 = .ok (.aload_n 0, 1) := by decide +kernel
theorem d_MO_judged_28 : decode b_MO_judged 28 = .ok (.getfield 223, 3) := by decide +kernel
theorem d_MO_judged_31 : decode b_MO_judged 31 = .ok (.aload_n 0, 1) := by decide +kernel
theorem d_MO_judged_32 : decode b_MO_judged 32 = .ok (.getfield 50, 3) := by decide +kernel
theorem d_MO_judged_35 : decode b_MO_judged 35 = .ok (.iload_n 1, 1) := by decide +kernel
theorem d_MO_judged_36 : decode b_MO_judged 36 = .ok (.iaload, 1) := by decide +kernel
theorem d_MO_judged_37 : decode b_MO_judged 37 = .ok (.isub, 1) := by decide +kernel
theorem d_MO_judged_38 : decode b_MO_judged 38 = .ok (.sipush 10000, 3) := by decide +kernel
theorem d_MO_judged_41 : decode b_MO_judged 41 = .ok (.if_icmp .lt 5, 3) := by decide +kernel
theorem d_MO_judged_44 : decode b_MO_judged 44 = .ok (.iconst 2, 1) := by decide +kernel
theorem d_MO_judged_45 : decode b_MO_judged 45 = .ok (.ireturn, 1) := by decide +kernel
theorem d_MO_judged_46 : decode b_MO_judged 46 = .ok (.aload_n 0, 1) := by decide +kernel
theorem d_MO_judged_47 : decode b_MO_judged 47 = .ok (.getfield 28, 3) := by decide +kernel
theorem d_MO_judged_50 : decode b_MO_judged 50 = .ok (.iload_n 1, 1) := by decide +kernel
theorem d_MO_judged_51 : decode b_MO_judged 51 = .ok (.baload, 1) := by decide +kernel
theorem d_MO_judged_52 : decode b_MO_judged 52 = .ok (.ifCond .ne 5, 3) := by decide +kernel
theorem d_MO_judged_55 : decode b_MO_judged 55 = .ok (.iconst 3, 1) := by decide +kernel
theorem d_MO_judged_56 : decode b_MO_judged 56 = .ok (.ireturn, 1) := by decide +kernel
theorem d_MO_judged_57 : decode b_MO_judged 57 = .ok (.aload_n 0, 1) := by decide +kernel
theorem d_MO_judged_58 : decode b_MO_judged 58 = .ok (.getfield 164, 3) := by decide +kernel
theorem d_MO_judged_61 : decode b_MO_judged 61 = .ok (.iload_n 2, 1) := by decide +kernel
theorem d_MO_judged_62 : decode b_MO_judged 62 = .ok (.iaload, 1) := by decide +kernel
theorem d_MO_judged_63 : decode b_MO_judged 63 = .ok (.aload_n 0, 1) := by decide +kernel
theorem d_MO_judged_64 : decode b_MO_judged 64 = .ok (.getfield 35, 3) := by decide +kernel
theorem d_MO_judged_67 : decode b_MO_judged 67 = .ok (.iload_n 1, 1) := by decide +kernel
theorem d_MO_judged_68 : decode b_MO_judged 68 = .ok (.iaload, 1) := by decide +kernel
theorem d_MO_judged_69 : decode b_MO_judged 69 = .ok (.aload_n 0, 1) := by decide +kernel
theorem d_MO_judged_70 : decode b_MO_judged 70 = .ok (.getfield 38, 3) := by decide +kernel
theorem d_MO_judged_73 : decode b_MO_judged 73 = .ok (.iload_n 1, 1) := by decide +kernel
theorem d_MO_judged_74 : decode b_MO_judged 74 = .ok (.iaload, 1) := by decide +kernel
theorem d_MO_judged_75 : decode b_MO_judged 75 = .ok (.aload_n 0, 1) := by decide +kernel
theorem d_MO_judged_76 : decode b_MO_judged 76 = .ok (.getfield 41, 3) := by decide +kernel
theorem d_MO_judged_79 : decode b_MO_judged 79 = .ok (.iload_n 1, 1) := by decide +kernel
theorem d_MO_judged_80 : decode b_MO_judged 80 = .ok (.iaload, 1) := by decide +kernel
theorem d_MO_judged_81 : decode b_MO_judged 81 = .ok (.invokestatic 240, 3) := by decide +kernel
theorem d_MO_judged_84 : decode b_MO_judged 84 = .ok (.ifCond .ne 5, 3) := by decide +kernel
theorem d_MO_judged_87 : decode b_MO_judged 87 = .ok (.iconst 4, 1) := by decide +kernel
theorem d_MO_judged_88 : decode b_MO_judged 88 = .ok (.ireturn, 1) := by decide +kernel
theorem d_MO_judged_89 : decode b_MO_judged 89 = .ok (.aload_n 0, 1) := by decide +kernel
theorem d_MO_judged_90 : decode b_MO_judged 90 = .ok (.getfield 44, 3) := by decide +kernel
theorem d_MO_judged_93 : decode b_MO_judged 93 = .ok (.iload_n 1, 1) := by decide +kernel
theorem d_MO_judged_94 : decode b_MO_judged 94 = .ok (.iaload, 1) := by decide +kernel
theorem d_MO_judged_95 : decode b_MO_judged 95 = .ok (.aload_n 0, 1) := by decide +kernel
theorem d_MO_judged_96 : decode b_MO_judged 96 = .ok (.getfield 167, 3) := by decide +kernel
theorem d_MO_judged_99 : decode b_MO_judged 99 = .ok (.iload_n 2, 1) := by decide +kernel
theorem d_MO_judged_100 : decode b_MO_judged 100 = .ok (.iaload, 1) := by decide +kernel
theorem d_MO_judged_101 : decode b_MO_judged 101 = .ok (.if_icmp .eq 7, 3) := by decide +kernel
theorem d_MO_judged_104 : decode b_MO_judged 104 = .ok (.iconst 5, 1) := by decide +kernel
theorem d_MO_judged_105 : decode b_MO_judged 105 = .ok (.goto 4, 3) := by decide +kernel
theorem d_MO_judged_108 : decode b_MO_judged 108 = .ok (.iconst 0, 1) := by decide +kernel
theorem d_MO_judged_109 : decode b_MO_judged 109 = .ok (.ireturn, 1) := by decide +kernel
theorem d_MO_orders_0 : decode b_MO_orders 0 = .ok (.aload_n 0, 1) := by decide +kernel
theorem d_MO_orders_1 : decode b_MO_orders 1 = .ok (.getfield 170, 3) := by decide +kernel
theorem d_MO_orders_4 : decode b_MO_orders 4 = .ok (.iload_n 2, 1) := by decide +kernel
theorem d_MO_orders_5 : decode b_MO_orders 5 = .ok (.iaload, 1) := by decide +kernel
theorem d_MO_orders_6 : decode b_MO_orders 6 = .ok (.ifCond .ge 37, 3) := by decide +kernel
theorem d_MO_orders_9 : decode b_MO_orders 9 = .ok (.aload_n 0, 1) := by decide +kernel
theorem d_MO_orders_10 : decode b_MO_orders 10 = .ok (.getfield 170, 3) := by decide +kernel
theorem d_MO_orders_13 : decode b_MO_orders 13 = .ok (.iload_n 2, 1) := by decide +kernel
theorem d_MO_orders_14 : decode b_MO_orders 14 = .ok (.aload_n 0, 1) := by decide +kernel
theorem d_MO_orders_15 : decode b_MO_orders 15 = .ok (.iload_n 1, 1) := by decide +kernel
theorem d_MO_orders_16 : decode b_MO_orders 16 = .ok (.iload_n 2, 1) := by decide +kernel
theorem d_MO_orders_17 : decode b_MO_orders 17 = .ok (.iload_n 3, 1) := by decide +kernel
theorem d_MO_orders_18 : decode b_MO_orders 18 = .ok (.invokevirtual 258, 3) := by decide +kernel
theorem d_MO_orders_21 : decode b_MO_orders 21 = .ok (.iastore, 1) := by decide +kernel
theorem d_MO_orders_22 : decode b_MO_orders 22 = .ok (.aload_n 0, 1) := by decide +kernel
theorem d_MO_orders_23 : decode b_MO_orders 23 = .ok (.getfield 170, 3) := by decide +kernel
theorem d_MO_orders_26 : decode b_MO_orders 26 = .ok (.iload_n 2, 1) := by decide +kernel
theorem d_MO_orders_27 : decode b_MO_orders 27 = .ok (.iaload, 1) := by decide +kernel
theorem d_MO_orders_28 : decode b_MO_orders 28 = .ok (.ifCond .ne 15, 3) := by decide +kernel
theorem d_MO_orders_31 : decode b_MO_orders 31 = .ok (.aload_n 0, 1) := by decide +kernel
theorem d_MO_orders_32 : decode b_MO_orders 32 = .ok (.getfield 44, 3) := by decide +kernel
theorem d_MO_orders_35 : decode b_MO_orders 35 = .ok (.iload_n 1, 1) := by decide +kernel
theorem d_MO_orders_36 : decode b_MO_orders 36 = .ok (.aload_n 0, 1) := by decide +kernel
theorem d_MO_orders_37 : decode b_MO_orders 37 = .ok (.getfield 164, 3) := by decide +kernel
theorem d_MO_orders_40 : decode b_MO_orders 40 = .ok (.iload_n 2, 1) := by decide +kernel
theorem d_MO_orders_41 : decode b_MO_orders 41 = .ok (.iaload, 1) := by decide +kernel
theorem d_MO_orders_42 : decode b_MO_orders 42 = .ok (.iastore, 1) := by decide +kernel
theorem d_MO_orders_43 : decode b_MO_orders 43 = .ok (.aload_n 0, 1) := by decide +kernel
theorem d_MO_orders_44 : decode b_MO_orders 44 = .ok (.bipush 6, 2) := by decide +kernel
theorem d_MO_orders_46 : decode b_MO_orders 46 = .ok (.iload_n 1, 1) := by decide +kernel
theorem d_MO_orders_47 : decode b_MO_orders 47 = .ok (.iload_n 2, 1) := by decide +kernel
theorem d_MO_orders_48 : decode b_MO_orders 48 = .ok (.aload_n 0, 1) := by decide +kernel
theorem d_MO_orders_49 : decode b_MO_orders 49 = .ok (.getfield 170, 3) := by decide +kernel
theorem d_MO_orders_52 : decode b_MO_orders 52 = .ok (.iload_n 2, 1) := by decide +kernel
theorem d_MO_orders_53 : decode b_MO_orders 53 = .ok (.iaload, 1) := by decide +kernel
theorem d_MO_orders_54 : decode b_MO_orders 54 = .ok (.iconst 0, 1) := by decide +kernel
theorem d_MO_orders_55 : decode b_MO_orders 55 = .ok (.invokevirtual 226, 3) := by decide +kernel
theorem d_MO_orders_58 : decode b_MO_orders 58 = .ok (.return_, 1) := by decide +kernel
theorem d_MO_carry_0 : decode b_MO_carry 0 = .ok (.aload_n 0, 1) := by decide +kernel
theorem d_MO_carry_1 : decode b_MO_carry 1 = .ok (.iconst 0, 1) := by decide +kernel
theorem d_MO_carry_2 : decode b_MO_carry 2 = .ok (.putfield 181, 3) := by decide +kernel
theorem d_MO_carry_5 : decode b_MO_carry 5 = .ok (.aload_n 0, 1) := by decide +kernel
theorem d_MO_carry_6 : decode b_MO_carry 6 = .ok (.iload_n 1, 1) := by decide +kernel
theorem d_MO_carry_7 : decode b_MO_carry 7 = .ok (.invokevirtual 262, 3) := by decide +kernel
theorem d_MO_carry_10 : decode b_MO_carry 10 = .ok (.istore_n 3, 1) := by decide +kernel
theorem d_MO_carry_11 : decode b_MO_carry 11 = .ok (.iload_n 3, 1) := by decide +kernel
theorem d_MO_carry_12 : decode b_MO_carry 12 = .ok (.ifCond .ge 5, 3) := by decide +kernel
theorem d_MO_carry_15 : decode b_MO_carry 15 = .ok (.iconst 0, 1) := by decide +kernel
theorem d_MO_carry_16 : decode b_MO_carry 16 = .ok (.ireturn, 1) := by decide +kernel
theorem d_MO_carry_17 : decode b_MO_carry 17 = .ok (.aload_n 0, 1) := by decide +kernel
theorem d_MO_carry_18 : decode b_MO_carry 18 = .ok (.getfield 119, 3) := by decide +kernel
theorem d_MO_carry_21 : decode b_MO_carry 21 = .ok (.iload_n 3, 1) := by decide +kernel
theorem d_MO_carry_22 : decode b_MO_carry 22 = .ok (.iaload, 1) := by decide +kernel
theorem d_MO_carry_23 : decode b_MO_carry 23 = .ok (.istore 4, 2) := by decide +kernel
theorem d_MO_carry_25 : decode b_MO_carry 25 = .ok (.aload_n 0, 1) := by decide +kernel
theorem d_MO_carry_26 : decode b_MO_carry 26 = .ok (.getfield 122, 3) := by decide +kernel
theorem d_MO_carry_29 : decode b_MO_carry 29 = .ok (.iload_n 3, 1) := by decide +kernel
theorem d_MO_carry_30 : decode b_MO_carry 30 = .ok (.iaload, 1) := by decide +kernel
theorem d_MO_carry_31 : decode b_MO_carry 31 = .ok (.istore 5, 2) := by decide +kernel
theorem d_MO_carry_33 : decode b_MO_carry 33 = .ok (.aload_n 0, 1) := by decide +kernel
theorem d_MO_carry_34 : decode b_MO_carry 34 = .ok (.getfield 125, 3) := by decide +kernel
theorem d_MO_carry_37 : decode b_MO_carry 37 = .ok (.iload_n 3, 1) := by decide +kernel
theorem d_MO_carry_38 : decode b_MO_carry 38 = .ok (.iaload, 1) := by decide +kernel
theorem d_MO_carry_39 : decode b_MO_carry 39 = .ok (.istore 6, 2) := by decide +kernel
theorem d_MO_carry_41 : decode b_MO_carry 41 = .ok (.aload_n 0, 1) := by decide +kernel
theorem d_MO_carry_42 : decode b_MO_carry 42 = .ok (.getfield 128, 3) := by decide +kernel
theorem d_MO_carry_45 : decode b_MO_carry 45 = .ok (.iload_n 3, 1) := by decide +kernel
theorem d_MO_carry_46 : decode b_MO_carry 46 = .ok (.iaload, 1) := by decide +kernel
theorem d_MO_carry_47 : decode b_MO_carry 47 = .ok (.istore 7, 2) := by decide +kernel
theorem d_MO_carry_49 : decode b_MO_carry 49 = .ok (.aload_n 0, 1) := by decide +kernel
theorem d_MO_carry_50 : decode b_MO_carry 50 = .ok (.getfield 131, 3) := by decide +kernel
theorem d_MO_carry_53 : decode b_MO_carry 53 = .ok (.iload_n 3, 1) := by decide +kernel
theorem d_MO_carry_54 : decode b_MO_carry 54 = .ok (.iaload, 1) := by decide +kernel
theorem d_MO_carry_55 : decode b_MO_carry 55 = .ok (.istore 8, 2) := by decide +kernel
theorem d_MO_carry_57 : decode b_MO_carry 57 = .ok (.aload_n 0, 1) := by decide +kernel
theorem d_MO_carry_58 : decode b_MO_carry 58 = .ok (.getfield 134, 3) := by decide +kernel
theorem d_MO_carry_61 : decode b_MO_carry 61 = .ok (.iload_n 3, 1) := by decide +kernel
theorem d_MO_carry_62 : decode b_MO_carry 62 = .ok (.iaload, 1) := by decide +kernel
theorem d_MO_carry_63 : decode b_MO_carry 63 = .ok (.istore 9, 2) := by decide +kernel
theorem d_MO_carry_65 : decode b_MO_carry 65 = .ok (.aload_n 0, 1) := by decide +kernel
theorem d_MO_carry_66 : decode b_MO_carry 66 = .ok (.getfield 137, 3) := by decide +kernel
theorem d_MO_carry_69 : decode b_MO_carry 69 = .ok (.iload_n 3, 1) := by decide +kernel
theorem d_MO_carry_70 : decode b_MO_carry 70 = .ok (.iaload, 1) := by decide +kernel
theorem d_MO_carry_71 : decode b_MO_carry 71 = .ok (.istore 10, 2) := by decide +kernel
theorem d_MO_carry_73 : decode b_MO_carry 73 = .ok (.iload_n 2, 1) := by decide +kernel
theorem d_MO_carry_74 : decode b_MO_carry 74 = .ok (.ifCond .ne 8, 3) := by decide +kernel
theorem d_MO_carry_77 : decode b_MO_carry 77 = .ok (.aload_n 0, 1) := by decide +kernel
theorem d_MO_carry_78 : decode b_MO_carry 78 = .ok (.iload_n 3, 1) := by decide +kernel
theorem d_MO_carry_79 : decode b_MO_carry 79 = .ok (.invokevirtual 265, 3) := by decide +kernel
theorem d_MO_carry_82 : decode b_MO_carry 82 = .ok (.iload 7, 2) := by decide +kernel
theorem d_MO_carry_84 : decode b_MO_carry 84 = .ok (.aload_n 0, 1) := by decide +kernel
theorem d_MO_carry_85 : decode b_MO_carry 85 = .ok (.getfield 19, 3) := by decide +kernel
theorem d_MO_carry_88 : decode b_MO_carry 88 = .ok (.iload 5, 2) := by decide +kernel
theorem d_MO_carry_90 : decode b_MO_carry 90 = .ok (.iaload, 1) := by decide +kernel
theorem d_MO_carry_91 : decode b_MO_carry 91 = .ok (.if_icmp .ne 7, 3) := by decide +kernel
theorem d_MO_carry_94 : decode b_MO_carry 94 = .ok (.iconst 1, 1) := by decide +kernel
theorem d_MO_carry_95 : decode b_MO_carry 95 = .ok (.goto 4, 3) := by decide +kernel
theorem d_MO_carry_98 : decode b_MO_carry 98 = .ok (.iconst 0, 1) := by decide +kernel
theorem d_MO_carry_99 : decode b_MO_carry 99 = .ok (.istore 11, 2) := by decide +kernel
theorem d_MO_carry_101 : decode b_MO_carry 101 = .ok (.iload 4, 2) := by decide +kernel
theorem d_MO_carry_103 : decode b_MO_carry 103 = .ok (.tableswitch 182 1 5 #[33, 61, 85, 114, 169], 33) := by decide +kernel
theorem d_MO_carry_136 : decode b_MO_carry 136 = .ok (.iload 11, 2) := by decide +kernel
theorem d_MO_carry_138 : decode b_MO_carry 138 = .ok (.ifCond .eq 158, 3) := by decide +kernel
theorem d_MO_carry_141 : decode b_MO_carry 141 = .ok (.aload_n 0, 1) := by decide +kernel
theorem d_MO_carry_142 : decode b_MO_carry 142 = .ok (.iload_n 1, 1) := by decide +kernel
theorem d_MO_carry_143 : decode b_MO_carry 143 = .ok (.iconst 4, 1) := by decide +kernel
theorem d_MO_carry_144 : decode b_MO_carry 144 = .ok (.iload 5, 2) := by decide +kernel
theorem d_MO_carry_146 : decode b_MO_carry 146 = .ok (.imul, 1) := by decide +kernel
theorem d_MO_carry_147 : decode b_MO_carry 147 = .ok (.iload 6, 2) := by decide +kernel
theorem d_MO_carry_149 : decode b_MO_carry 149 = .ok (.iadd, 1) := by decide +kernel
theorem d_MO_carry_150 : decode b_MO_carry 150 = .ok (.iload 7, 2) := by decide +kernel
theorem d_MO_carry_152 : decode b_MO_carry 152 = .ok (.iload 8, 2) := by decide +kernel
theorem d_MO_carry_154 : decode b_MO_carry 154 = .ok (.iload 9, 2) := by decide +kernel
theorem d_MO_carry_156 : decode b_MO_carry 156 = .ok (.iload 10, 2) := by decide +kernel
theorem d_MO_carry_158 : decode b_MO_carry 158 = .ok (.invokevirtual 268, 3) := by decide +kernel
theorem d_MO_carry_161 : decode b_MO_carry 161 = .ok (.goto 135, 3) := by decide +kernel
theorem d_MO_carry_164 : decode b_MO_carry 164 = .ok (.iload 11, 2) := by decide +kernel
theorem d_MO_carry_166 : decode b_MO_carry 166 = .ok (.ifCond .eq 130, 3) := by decide +kernel
theorem d_MO_carry_169 : decode b_MO_carry 169 = .ok (.aload_n 0, 1) := by decide +kernel
theorem d_MO_carry_170 : decode b_MO_carry 170 = .ok (.iload_n 1, 1) := by decide +kernel
theorem d_MO_carry_171 : decode b_MO_carry 171 = .ok (.iload 5, 2) := by decide +kernel
theorem d_MO_carry_173 : decode b_MO_carry 173 = .ok (.iconst 4, 1) := by decide +kernel
theorem d_MO_carry_174 : decode b_MO_carry 174 = .ok (.iload 5, 2) := by decide +kernel
theorem d_MO_carry_176 : decode b_MO_carry 176 = .ok (.imul, 1) := by decide +kernel
theorem d_MO_carry_177 : decode b_MO_carry 177 = .ok (.iload 6, 2) := by decide +kernel
theorem d_MO_carry_179 : decode b_MO_carry 179 = .ok (.iadd, 1) := by decide +kernel
theorem d_MO_carry_180 : decode b_MO_carry 180 = .ok (.iload 8, 2) := by decide +kernel
theorem d_MO_carry_182 : decode b_MO_carry 182 = .ok (.invokevirtual 272, 3) := by decide +kernel
theorem d_MO_carry_185 : decode b_MO_carry 185 = .ok (.goto 111, 3) := by decide +kernel
theorem d_MO_carry_188 : decode b_MO_carry 188 = .ok (.aload_n 0, 1) := by decide +kernel
theorem d_MO_carry_189 : decode b_MO_carry 189 = .ok (.getfield 53, 3) := by decide +kernel
theorem d_MO_carry_192 : decode b_MO_carry 192 = .ok (.iload 5, 2) := by decide +kernel
theorem d_MO_carry_194 : decode b_MO_carry 194 = .ok (.iload 11, 2) := by decide +kernel
theorem d_MO_carry_196 : decode b_MO_carry 196 = .ok (.ifCond .eq 10, 3) := by decide +kernel
theorem d_MO_carry_199 : decode b_MO_carry 199 = .ok (.aload_n 0, 1) := by decide +kernel
theorem d_MO_carry_200 : decode b_MO_carry 200 = .ok (.getfield 223, 3) := by decide +kernel
theorem d_MO_carry_203 : decode b_MO_carry 203 = .ok (.goto 10, 3) := by decide +kernel
theorem d_MO_carry_206 : decode b_MO_carry 206 = .ok (.aload_n 0, 1) := by decide +kernel
theorem d_MO_carry_207 : decode b_MO_carry 207 = .ok (.getfield 53, 3) := by decide +kernel
theorem d_MO_carry_210 : decode b_MO_carry 210 = .ok (.iload 5, 2) := by decide +kernel
theorem d_MO_carry_212 : decode b_MO_carry 212 = .ok (.iaload, 1) := by decide +kernel
theorem d_MO_carry_213 : decode b_MO_carry 213 = .ok (.iastore, 1) := by decide +kernel
theorem d_MO_carry_214 : decode b_MO_carry 214 = .ok (.goto 82, 3) := by decide +kernel
theorem d_MO_carry_217 : decode b_MO_carry 217 = .ok (.aload_n 0, 1) := by decide +kernel
theorem d_MO_carry_218 : decode b_MO_carry 218 = .ok (.getfield 101, 3) := by decide +kernel
theorem d_MO_carry_221 : decode b_MO_carry 221 = .ok (.iconst 4, 1) := by decide +kernel
theorem d_MO_carry_222 : decode b_MO_carry 222 = .ok (.iload 5, 2) := by decide +kernel
theorem d_MO_carry_224 : decode b_MO_carry 224 = .ok (.imul, 1) := by decide +kernel
theorem d_MO_carry_225 : decode b_MO_carry 225 = .ok (.iload 6, 2) := by decide +kernel
theorem d_MO_carry_227 : decode b_MO_carry 227 = .ok (.iadd, 1) := by decide +kernel
theorem d_MO_carry_228 : decode b_MO_carry 228 = .ok (.aload_n 0, 1) := by decide +kernel
theorem d_MO_carry_229 : decode b_MO_carry 229 = .ok (.getfield 101, 3) := by decide +kernel
theorem d_MO_carry_232 : decode b_MO_carry 232 = .ok (.iconst 4, 1) := by decide +kernel
theorem d_MO_carry_233 : decode b_MO_carry 233 = .ok (.iload 5, 2) := by decide +kernel
theorem d_MO_carry_235 : decode b_MO_carry 235 = .ok (.imul, 1) := by decide +kernel
theorem d_MO_carry_236 : decode b_MO_carry 236 = .ok (.iload 6, 2) := by decide +kernel
theorem d_MO_carry_238 : decode b_MO_carry 238 = .ok (.iadd, 1) := by decide +kernel
theorem d_MO_carry_239 : decode b_MO_carry 239 = .ok (.baload, 1) := by decide +kernel
theorem d_MO_carry_240 : decode b_MO_carry 240 = .ok (.ifCond .ne 23, 3) := by decide +kernel
theorem d_MO_carry_243 : decode b_MO_carry 243 = .ok (.iload 11, 2) := by decide +kernel
theorem d_MO_carry_245 : decode b_MO_carry 245 = .ok (.ifCond .eq 22, 3) := by decide +kernel
theorem d_MO_carry_248 : decode b_MO_carry 248 = .ok (.aload_n 0, 1) := by decide +kernel
theorem d_MO_carry_249 : decode b_MO_carry 249 = .ok (.getfield 98, 3) := by decide +kernel
theorem d_MO_carry_252 : decode b_MO_carry 252 = .ok (.iconst 4, 1) := by decide +kernel
theorem d_MO_carry_253 : decode b_MO_carry 253 = .ok (.iload 5, 2) := by decide +kernel
theorem d_MO_carry_255 : decode b_MO_carry 255 = .ok (.imul, 1) := by decide +kernel
theorem d_MO_carry_256 : decode b_MO_carry 256 = .ok (.iload 6, 2) := by decide +kernel
theorem d_MO_carry_258 : decode b_MO_carry 258 = .ok (.iadd, 1) := by decide +kernel
theorem d_MO_carry_259 : decode b_MO_carry 259 = .ok (.baload, 1) := by decide +kernel
theorem d_MO_carry_260 : decode b_MO_carry 260 = .ok (.ifCond .eq 7, 3) := by decide +kernel
theorem d_MO_carry_263 : decode b_MO_carry 263 = .ok (.iconst 1, 1) := by decide +kernel
theorem d_MO_carry_264 : decode b_MO_carry 264 = .ok (.goto 4, 3) := by decide +kernel
theorem d_MO_carry_267 : decode b_MO_carry 267 = .ok (.iconst 0, 1) := by decide +kernel
theorem d_MO_carry_268 : decode b_MO_carry 268 = .ok (.bastore, 1) := by decide +kernel
theorem d_MO_carry_269 : decode b_MO_carry 269 = .ok (.goto 27, 3) := by decide +kernel
theorem d_MO_carry_272 : decode b_MO_carry 272 = .ok (.aload_n 0, 1) := by decide +kernel
theorem d_MO_carry_273 : decode b_MO_carry 273 = .ok (.iload 5, 2) := by decide +kernel
theorem d_MO_carry_275 : decode b_MO_carry 275 = .ok (.iload 6, 2) := by decide +kernel
theorem d_MO_carry_277 : decode b_MO_carry 277 = .ok (.iload 7, 2) := by decide +kernel
theorem d_MO_carry_279 : decode b_MO_carry 279 = .ok (.invokevirtual 276, 3) := by decide +kernel
theorem d_MO_carry_282 : decode b_MO_carry 282 = .ok (.goto 14, 3) := by decide +kernel
theorem d_MO_carry_285 : decode b_MO_carry 285 = .ok (.aload_n 0, 1) := by decide +kernel
theorem d_MO_carry_286 : decode b_MO_carry 286 = .ok (.getfield 173, 3) := by decide +kernel
theorem d_MO_carry_289 : decode b_MO_carry 289 = .ok (.iload 6, 2) := by decide +kernel
theorem d_MO_carry_291 : decode b_MO_carry 291 = .ok (.iconst 1, 1) := by decide +kernel
theorem d_MO_carry_292 : decode b_MO_carry 292 = .ok (.iload 8, 2) := by decide +kernel
theorem d_MO_carry_294 : decode b_MO_carry 294 = .ok (.iadd, 1) := by decide +kernel
theorem d_MO_carry_295 : decode b_MO_carry 295 = .ok (.iastore, 1) := by decide +kernel
theorem d_MO_carry_296 : decode b_MO_carry 296 = .ok (.aload_n 0, 1) := by decide +kernel
theorem d_MO_carry_297 : decode b_MO_carry 297 = .ok (.invokevirtual 211, 3) := by decide +kernel
theorem d_MO_carry_300 : decode b_MO_carry 300 = .ok (.iconst 1, 1) := by decide +kernel
theorem d_MO_carry_301 : decode b_MO_carry 301 = .ok (.ireturn, 1) := by decide +kernel
theorem d_MO_drop_0 : decode b_MO_drop 0 = .ok (.aload_n 0, 1) := by decide +kernel
theorem d_MO_drop_1 : decode b_MO_drop 1 = .ok (.iconst 0, 1) := by decide +kernel
theorem d_MO_drop_2 : decode b_MO_drop 2 = .ok (.putfield 181, 3) := by decide +kernel
theorem d_MO_drop_5 : decode b_MO_drop 5 = .ok (.aload_n 0, 1) := by decide +kernel
theorem d_MO_drop_6 : decode b_MO_drop 6 = .ok (.iload_n 1, 1) := by decide +kernel
theorem d_MO_drop_7 : decode b_MO_drop 7 = .ok (.invokevirtual 262, 3) := by decide +kernel
theorem d_MO_drop_10 : decode b_MO_drop 10 = .ok (.istore_n 2, 1) := by decide +kernel
theorem d_MO_drop_11 : decode b_MO_drop 11 = .ok (.iload_n 2, 1) := by decide +kernel
theorem d_MO_drop_12 : decode b_MO_drop 12 = .ok (.ifCond .ge 5, 3) := by decide +kernel
theorem d_MO_drop_15 : decode b_MO_drop 15 = .ok (.iconst 0, 1) := by decide +kernel
theorem d_MO_drop_16 : decode b_MO_drop 16 = .ok (.ireturn, 1) := by decide +kernel
theorem d_MO_drop_17 : decode b_MO_drop 17 = .ok (.aload_n 0, 1) := by decide +kernel
theorem d_MO_drop_18 : decode b_MO_drop 18 = .ok (.iload_n 2, 1) := by decide +kernel
theorem d_MO_drop_19 : decode b_MO_drop 19 = .ok (.invokevirtual 265, 3) := by decide +kernel
theorem d_MO_drop_22 : decode b_MO_drop 22 = .ok (.iconst 1, 1) := by decide +kernel
theorem d_MO_drop_23 : decode b_MO_drop 23 = .ok (.ireturn, 1) := by decide +kernel
theorem d_MO_bind_0 : decode b_MO_bind 0 = .ok (.aload_n 0, 1) := by decide +kernel
theorem d_MO_bind_1 : decode b_MO_bind 1 = .ok (.iload_n 1, 1) := by decide +kernel
theorem d_MO_bind_2 : decode b_MO_bind 2 = .ok (.invokestatic 194, 3) := by decide +kernel
theorem d_MO_bind_5 : decode b_MO_bind 5 = .ok (.ifCond .eq 17, 3) := by decide +kernel
theorem d_MO_bind_8 : decode b_MO_bind 8 = .ok (.iload_n 2, 1) := by decide +kernel
theorem d_MO_bind_9 : decode b_MO_bind 9 = .ok (.ifCond .lt 13, 3) := by decide +kernel
theorem d_MO_bind_12 : decode b_MO_bind 12 = .ok (.iload_n 2, 1) := by decide +kernel
theorem d_MO_bind_13 : decode b_MO_bind 13 = .ok (.bipush 16, 2) := by decide +kernel
theorem d_MO_bind_15 : decode b_MO_bind 15 = .ok (.if_icmp .ge 7, 3) := by decide +kernel
theorem d_MO_bind_18 : decode b_MO_bind 18 = .ok (.iconst 0, 1) := by decide +kernel
theorem d_MO_bind_19 : decode b_MO_bind 19 = .ok (.goto 4, 3) := by decide +kernel
theorem d_MO_bind_22 : decode b_MO_bind 22 = .ok (.iconst 1, 1) := by decide +kernel
theorem d_MO_bind_23 : decode b_MO_bind 23 = .ok (.putfield 181, 3) := by decide +kernel
theorem d_MO_bind_26 : decode b_MO_bind 26 = .ok (.aload_n 0, 1) := by decide +kernel
theorem d_MO_bind_27 : decode b_MO_bind 27 = .ok (.getfield 181, 3) := by decide +kernel
theorem d_MO_bind_30 : decode b_MO_bind 30 = .ok (.ifCond .le 5, 3) := by decide +kernel
theorem d_MO_bind_33 : decode b_MO_bind 33 = .ok (.iconst 0, 1) := by decide +kernel
theorem d_MO_bind_34 : decode b_MO_bind 34 = .ok (.ireturn, 1) := by decide +kernel
theorem d_MO_bind_35 : decode b_MO_bind 35 = .ok (.iconst (-1), 1) := by decide +kernel
theorem d_MO_bind_36 : decode b_MO_bind 36 = .ok (.istore_n 3, 1) := by decide +kernel
theorem d_MO_bind_37 : decode b_MO_bind 37 = .ok (.bipush 31, 2) := by decide +kernel
theorem d_MO_bind_39 : decode b_MO_bind 39 = .ok (.istore 4, 2) := by decide +kernel
theorem d_MO_bind_41 : decode b_MO_bind 41 = .ok (.iload 4, 2) := by decide +kernel
theorem d_MO_bind_43 : decode b_MO_bind 43 = .ok (.ifCond .lt 79, 3) := by decide +kernel
theorem d_MO_bind_46 : decode b_MO_bind 46 = .ok (.iload 4, 2) := by decide +kernel
theorem d_MO_bind_48 : decode b_MO_bind 48 = .ok (.iconst 4, 1) := by decide +kernel
theorem d_MO_bind_49 : decode b_MO_bind 49 = .ok (.idiv, 1) := by decide +kernel
theorem d_MO_bind_50 : decode b_MO_bind 50 = .ok (.istore 5, 2) := by decide +kernel
theorem d_MO_bind_52 : decode b_MO_bind 52 = .ok (.aload_n 0, 1) := by decide +kernel
theorem d_MO_bind_53 : decode b_MO_bind 53 = .ok (.getfield 13, 3) := by decide +kernel
theorem d_MO_bind_56 : decode b_MO_bind 56 = .ok (.iload 5, 2) := by decide +kernel
theorem d_MO_bind_58 : decode b_MO_bind 58 = .ok (.iaload, 1) := by decide +kernel
theorem d_MO_bind_59 : decode b_MO_bind 59 = .ok (.iconst 2, 1) := by decide +kernel
theorem d_MO_bind_60 : decode b_MO_bind 60 = .ok (.if_icmp .ne 54, 3) := by decide +kernel
theorem d_MO_bind_63 : decode b_MO_bind 63 = .ok (.aload_n 0, 1) := by decide +kernel
theorem d_MO_bind_64 : decode b_MO_bind 64 = .ok (.getfield 25, 3) := by decide +kernel
theorem d_MO_bind_67 : decode b_MO_bind 67 = .ok (.iload 5, 2) := by decide +kernel
theorem d_MO_bind_69 : decode b_MO_bind 69 = .ok (.iaload, 1) := by decide +kernel
theorem d_MO_bind_70 : decode b_MO_bind 70 = .ok (.ifCond .eq 44, 3) := by decide +kernel
theorem d_MO_bind_73 : decode b_MO_bind 73 = .ok (.aload_n 0, 1) := by decide +kernel
theorem d_MO_bind_74 : decode b_MO_bind 74 = .ok (.getfield 16, 3) := by decide +kernel
theorem d_MO_bind_77 : decode b_MO_bind 77 = .ok (.iload 5, 2) := by decide +kernel
theorem d_MO_bind_79 : decode b_MO_bind 79 = .ok (.iaload, 1) := by decide +kernel
theorem d_MO_bind_80 : decode b_MO_bind 80 = .ok (.iload_n 1, 1) := by decide +kernel
theorem d_MO_bind_81 : decode b_MO_bind 81 = .ok (.if_icmp .ne 33, 3) := by decide +kernel
theorem d_MO_bind_84 : decode b_MO_bind 84 = .ok (.iload 4, 2) := by decide +kernel
theorem d_MO_bind_86 : decode b_MO_bind 86 = .ok (.iconst 4, 1) := by decide +kernel
theorem d_MO_bind_87 : decode b_MO_bind 87 = .ok (.irem, 1) := by decide +kernel
theorem d_MO_bind_88 : decode b_MO_bind 88 = .ok (.aload_n 0, 1) := by decide +kernel
theorem d_MO_bind_89 : decode b_MO_bind 89 = .ok (.getfield 22, 3) := by decide +kernel
theorem d_MO_bind_92 : decode b_MO_bind 92 = .ok (.iload 5, 2) := by decide +kernel
theorem d_MO_bind_94 : decode b_MO_bind 94 = .ok (.iaload, 1) := by decide +kernel
theorem d_MO_bind_95 : decode b_MO_bind 95 = .ok (.if_icmp .ge 19, 3) := by decide +kernel
theorem d_MO_bind_98 : decode b_MO_bind 98 = .ok (.aload_n 0, 1) := by decide +kernel
theorem d_MO_bind_99 : decode b_MO_bind 99 = .ok (.getfield 56, 3) := by decide +kernel
theorem d_MO_bind_102 : decode b_MO_bind 102 = .ok (.iload 4, 2) := by decide +kernel
theorem d_MO_bind_104 : decode b_MO_bind 104 = .ok (.iaload, 1) := by decide +kernel
theorem d_MO_bind_105 : decode b_MO_bind 105 = .ok (.iload_n 2, 1) := by decide +kernel
theorem d_MO_bind_106 : decode b_MO_bind 106 = .ok (.if_icmp .ne 8, 3) := by decide +kernel
theorem d_MO_bind_109 : decode b_MO_bind 109 = .ok (.iload 4, 2) := by decide +kernel
theorem d_MO_bind_111 : decode b_MO_bind 111 = .ok (.goto 4, 3) := by decide +kernel
theorem d_MO_bind_114 : decode b_MO_bind 114 = .ok (.iload_n 3, 1) := by decide +kernel
theorem d_MO_bind_115 : decode b_MO_bind 115 = .ok (.istore_n 3, 1) := by decide +kernel
theorem d_MO_bind_116 : decode b_MO_bind 116 = .ok (.iinc 4 (-1), 3) := by decide +kernel
theorem d_MO_bind_119 : decode b_MO_bind 119 = .ok (.goto (-78), 3) := by decide +kernel
theorem d_MO_bind_122 : decode b_MO_bind 122 = .ok (.aload_n 0, 1) := by decide +kernel
theorem d_MO_bind_123 : decode b_MO_bind 123 = .ok (.aload_n 0, 1) := by decide +kernel
theorem d_MO_bind_124 : decode b_MO_bind 124 = .ok (.getfield 255, 3) := by decide +kernel
theorem d_MO_bind_127 : decode b_MO_bind 127 = .ok (.bipush 16, 2) := by decide +kernel
theorem d_MO_bind_129 : decode b_MO_bind 129 = .ok (.if_icmp .eq 7, 3) := by decide +kernel
theorem d_MO_bind_132 : decode b_MO_bind 132 = .ok (.iload_n 3, 1) := by decide +kernel
theorem d_MO_bind_133 : decode b_MO_bind 133 = .ok (.ifCond .ge 7, 3) := by decide +kernel
theorem d_MO_bind_136 : decode b_MO_bind 136 = .ok (.iconst 2, 1) := by decide +kernel
theorem d_MO_bind_137 : decode b_MO_bind 137 = .ok (.goto 4, 3) := by decide +kernel
theorem d_MO_bind_140 : decode b_MO_bind 140 = .ok (.iconst 0, 1) := by decide +kernel
theorem d_MO_bind_141 : decode b_MO_bind 141 = .ok (.putfield 181, 3) := by decide +kernel
theorem d_MO_bind_144 : decode b_MO_bind 144 = .ok (.aload_n 0, 1) := by decide +kernel
theorem d_MO_bind_145 : decode b_MO_bind 145 = .ok (.getfield 181, 3) := by decide +kernel
theorem d_MO_bind_148 : decode b_MO_bind 148 = .ok (.ifCond .le 5, 3) := by decide +kernel
theorem d_MO_bind_151 : decode b_MO_bind 151 = .ok (.iconst 0, 1) := by decide +kernel
theorem d_MO_bind_152 : decode b_MO_bind 152 = .ok (.ireturn, 1) := by decide +kernel
theorem d_MO_bind_153 : decode b_MO_bind 153 = .ok (.aload_n 0, 1) := by decide +kernel
theorem d_MO_bind_154 : decode b_MO_bind 154 = .ok (.getfield 140, 3) := by decide +kernel
theorem d_MO_bind_157 : decode b_MO_bind 157 = .ok (.aload_n 0, 1) := by decide +kernel
theorem d_MO_bind_158 : decode b_MO_bind 158 = .ok (.getfield 255, 3) := by decide +kernel
theorem d_MO_bind_161 : decode b_MO_bind 161 = .ok (.iload_n 3, 1) := by decide +kernel
theorem d_MO_bind_162 : decode b_MO_bind 162 = .ok (.iastore, 1) := by decide +kernel
theorem d_MO_bind_163 : decode b_MO_bind 163 = .ok (.aload_n 0, 1) := by decide +kernel
theorem d_MO_bind_164 : decode b_MO_bind 164 = .ok (.getfield 143, 3) := by decide +kernel
theorem d_MO_bind_167 : decode b_MO_bind 167 = .ok (.aload_n 0, 1) := by decide +kernel
theorem d_MO_bind_168 : decode b_MO_bind 168 = .ok (.getfield 255, 3) := by decide +kernel
theorem d_MO_bind_171 : decode b_MO_bind 171 = .ok (.aload_n 0, 1) := by decide +kernel
theorem d_MO_bind_172 : decode b_MO_bind 172 = .ok (.getfield 19, 3) := by decide +kernel
theorem d_MO_bind_175 : decode b_MO_bind 175 = .ok (.iload_n 3, 1) := by decide +kernel
theorem d_MO_bind_176 : decode b_MO_bind 176 = .ok (.iconst 4, 1) := by decide +kernel
theorem d_MO_bind_177 : decode b_MO_bind 177 = .ok (.idiv, 1) := by decide +kernel
theorem d_MO_bind_178 : decode b_MO_bind 178 = .ok (.iaload, 1) := by decide +kernel
theorem d_MO_bind_179 : decode b_MO_bind 179 = .ok (.iastore, 1) := by decide +kernel
theorem d_MO_bind_180 : decode b_MO_bind 180 = .ok (.aload_n 0, 1) := by decide +kernel
theorem d_MO_bind_181 : decode b_MO_bind 181 = .ok (.getfield 146, 3) := by decide +kernel
theorem d_MO_bind_184 : decode b_MO_bind 184 = .ok (.aload_n 0, 1) := by decide +kernel
theorem d_MO_bind_185 : decode b_MO_bind 185 = .ok (.getfield 255, 3) := by decide +kernel
theorem d_MO_bind_188 : decode b_MO_bind 188 = .ok (.aload_n 0, 1) := by decide +kernel
theorem d_MO_bind_189 : decode b_MO_bind 189 = .ok (.getfield 25, 3) := by decide +kernel
theorem d_MO_bind_192 : decode b_MO_bind 192 = .ok (.iload_n 3, 1) := by decide +kernel
theorem d_MO_bind_193 : decode b_MO_bind 193 = .ok (.iconst 4, 1) := by decide +kernel
theorem d_MO_bind_194 : decode b_MO_bind 194 = .ok (.idiv, 1) := by decide +kernel
theorem d_MO_bind_195 : decode b_MO_bind 195 = .ok (.iaload, 1) := by decide +kernel
theorem d_MO_bind_196 : decode b_MO_bind 196 = .ok (.iastore, 1) := by decide +kernel
theorem d_MO_bind_197 : decode b_MO_bind 197 = .ok (.aload_n 0, 1) := by decide +kernel
theorem d_MO_bind_198 : decode b_MO_bind 198 = .ok (.getfield 149, 3) := by decide +kernel
theorem d_MO_bind_201 : decode b_MO_bind 201 = .ok (.aload_n 0, 1) := by decide +kernel
theorem d_MO_bind_202 : decode b_MO_bind 202 = .ok (.getfield 255, 3) := by decide +kernel
theorem d_MO_bind_205 : decode b_MO_bind 205 = .ok (.iconst (-1), 1) := by decide +kernel
theorem d_MO_bind_206 : decode b_MO_bind 206 = .ok (.iastore, 1) := by decide +kernel
theorem d_MO_bind_207 : decode b_MO_bind 207 = .ok (.aload_n 0, 1) := by decide +kernel
theorem d_MO_bind_208 : decode b_MO_bind 208 = .ok (.dup, 1) := by decide +kernel
theorem d_MO_bind_209 : decode b_MO_bind 209 = .ok (.getfield 255, 3) := by decide +kernel
theorem d_MO_bind_212 : decode b_MO_bind 212 = .ok (.iconst 1, 1) := by decide +kernel
theorem d_MO_bind_213 : decode b_MO_bind 213 = .ok (.iadd, 1) := by decide +kernel
theorem d_MO_bind_214 : decode b_MO_bind 214 = .ok (.putfield 255, 3) := by decide +kernel
theorem d_MO_bind_217 : decode b_MO_bind 217 = .ok (.aload_n 0, 1) := by decide +kernel
theorem d_MO_bind_218 : decode b_MO_bind 218 = .ok (.getfield 255, 3) := by decide +kernel
theorem d_MO_bind_221 : decode b_MO_bind 221 = .ok (.iconst 1, 1) := by decide +kernel
theorem d_MO_bind_222 : decode b_MO_bind 222 = .ok (.isub, 1) := by decide +kernel
theorem d_MO_bind_223 : decode b_MO_bind 223 = .ok (.ireturn, 1) := by decide +kernel
theorem d_MO_shown_0 : decode b_MO_shown 0 = .ok (.iload_n 1, 1) := by decide +kernel
theorem d_MO_shown_1 : decode b_MO_shown 1 = .ok (.ifCond .lt 24, 3) := by decide +kernel
theorem d_MO_shown_4 : decode b_MO_shown 4 = .ok (.iload_n 1, 1) := by decide +kernel
theorem d_MO_shown_5 : decode b_MO_shown 5 = .ok (.aload_n 0, 1) := by decide +kernel
theorem d_MO_shown_6 : decode b_MO_shown 6 = .ok (.getfield 255, 3) := by decide +kernel
theorem d_MO_shown_9 : decode b_MO_shown 9 = .ok (.if_icmp .ge 16, 3) := by decide +kernel
theorem d_MO_shown_12 : decode b_MO_shown 12 = .ok (.iload_n 2, 1) := by decide +kernel
theorem d_MO_shown_13 : decode b_MO_shown 13 = .ok (.ifCond .lt 12, 3) := by decide +kernel
theorem d_MO_shown_16 : decode b_MO_shown 16 = .ok (.iload_n 2, 1) := by decide +kernel
theorem d_MO_shown_17 : decode b_MO_shown 17 = .ok (.iconst 4, 1) := by decide +kernel
theorem d_MO_shown_18 : decode b_MO_shown 18 = .ok (.if_icmp .ge 7, 3) := by decide +kernel
theorem d_MO_shown_21 : decode b_MO_shown 21 = .ok (.iconst 1, 1) := by decide +kernel
theorem d_MO_shown_22 : decode b_MO_shown 22 = .ok (.goto 4, 3) := by decide +kernel
theorem d_MO_shown_25 : decode b_MO_shown 25 = .ok (.iconst 0, 1) := by decide +kernel
theorem d_MO_shown_26 : decode b_MO_shown 26 = .ok (.istore_n 3, 1) := by decide +kernel
theorem d_MO_shown_27 : decode b_MO_shown 27 = .ok (.aload_n 0, 1) := by decide +kernel
theorem d_MO_shown_28 : decode b_MO_shown 28 = .ok (.iload_n 3, 1) := by decide +kernel
theorem d_MO_shown_29 : decode b_MO_shown 29 = .ok (.ifCond .ne 7, 3) := by decide +kernel
theorem d_MO_shown_32 : decode b_MO_shown 32 = .ok (.iconst 1, 1) := by decide +kernel
theorem d_MO_shown_33 : decode b_MO_shown 33 = .ok (.goto 40, 3) := by decide +kernel
theorem d_MO_shown_36 : decode b_MO_shown 36 = .ok (.iload_n 2, 1) := by decide +kernel
theorem d_MO_shown_37 : decode b_MO_shown 37 = .ok (.iconst 2, 1) := by decide +kernel
theorem d_MO_shown_38 : decode b_MO_shown 38 = .ok (.if_icmp .ge 34, 3) := by decide +kernel
theorem d_MO_shown_41 : decode b_MO_shown 41 = .ok (.aload_n 0, 1) := by decide +kernel
theorem d_MO_shown_42 : decode b_MO_shown 42 = .ok (.getfield 149, 3) := by decide +kernel
theorem d_MO_shown_45 : decode b_MO_shown 45 = .ok (.iload_n 1, 1) := by decide +kernel
theorem d_MO_shown_46 : decode b_MO_shown 46 = .ok (.iaload, 1) := by decide +kernel
theorem d_MO_shown_47 : decode b_MO_shown 47 = .ok (.iconst (-1), 1) := by decide +kernel
theorem d_MO_shown_48 : decode b_MO_shown 48 = .ok (.if_icmp .eq 20, 3) := by decide +kernel
theorem d_MO_shown_51 : decode b_MO_shown 51 = .ok (.aload_n 0, 1) := by decide +kernel
theorem d_MO_shown_52 : decode b_MO_shown 52 = .ok (.getfield 223, 3) := by decide +kernel
theorem d_MO_shown_55 : decode b_MO_shown 55 = .ok (.aload_n 0, 1) := by decide +kernel
theorem d_MO_shown_56 : decode b_MO_shown 56 = .ok (.getfield 158, 3) := by decide +kernel
theorem d_MO_shown_59 : decode b_MO_shown 59 = .ok (.iload_n 1, 1) := by decide +kernel
theorem d_MO_shown_60 : decode b_MO_shown 60 = .ok (.iaload, 1) := by decide +kernel
theorem d_MO_shown_61 : decode b_MO_shown 61 = .ok (.isub, 1) := by decide +kernel
theorem d_MO_shown_62 : decode b_MO_shown 62 = .ok (.sipush 3000, 3) := by decide +kernel
theorem d_MO_shown_65 : decode b_MO_shown 65 = .ok (.if_icmp .lt 7, 3) := by decide +kernel
theorem d_MO_shown_68 : decode b_MO_shown 68 = .ok (.iconst 2, 1) := by decide +kernel
theorem d_MO_shown_69 : decode b_MO_shown 69 = .ok (.goto 4, 3) := by decide +kernel
theorem d_MO_shown_72 : decode b_MO_shown 72 = .ok (.iconst 0, 1) := by decide +kernel
theorem d_MO_shown_73 : decode b_MO_shown 73 = .ok (.putfield 181, 3) := by decide +kernel
theorem d_MO_shown_76 : decode b_MO_shown 76 = .ok (.aload_n 0, 1) := by decide +kernel
theorem d_MO_shown_77 : decode b_MO_shown 77 = .ok (.getfield 181, 3) := by decide +kernel
theorem d_MO_shown_80 : decode b_MO_shown 80 = .ok (.ifCond .le 5, 3) := by decide +kernel
theorem d_MO_shown_83 : decode b_MO_shown 83 = .ok (.iconst 0, 1) := by decide +kernel
theorem d_MO_shown_84 : decode b_MO_shown 84 = .ok (.ireturn, 1) := by decide +kernel
theorem d_MO_shown_85 : decode b_MO_shown 85 = .ok (.iload_n 2, 1) := by decide +kernel
theorem d_MO_shown_86 : decode b_MO_shown 86 = .ok (.ifCond .ne 12, 3) := by decide +kernel
theorem d_MO_shown_89 : decode b_MO_shown 89 = .ok (.aload_n 0, 1) := by decide +kernel
theorem d_MO_shown_90 : decode b_MO_shown 90 = .ok (.getfield 152, 3) := by decide +kernel
theorem d_MO_shown_93 : decode b_MO_shown 93 = .ok (.iload_n 1, 1) := by decide +kernel
theorem d_MO_shown_94 : decode b_MO_shown 94 = .ok (.iaload, 1) := by decide +kernel
theorem d_MO_shown_95 : decode b_MO_shown 95 = .ok (.goto 46, 3) := by decide +kernel
theorem d_MO_shown_98 : decode b_MO_shown 98 = .ok (.iload_n 2, 1) := by decide +kernel
theorem d_MO_shown_99 : decode b_MO_shown 99 = .ok (.iconst 1, 1) := by decide +kernel
theorem d_MO_shown_100 : decode b_MO_shown 100 = .ok (.if_icmp .ne 17, 3) := by decide +kernel
theorem d_MO_shown_103 : decode b_MO_shown 103 = .ok (.aload_n 0, 1) := by decide +kernel
theorem d_MO_shown_104 : decode b_MO_shown 104 = .ok (.getfield 223, 3) := by decide +kernel
theorem d_MO_shown_107 : decode b_MO_shown 107 = .ok (.aload_n 0, 1) := by decide +kernel
theorem d_MO_shown_108 : decode b_MO_shown 108 = .ok (.getfield 155, 3) := by decide +kernel
theorem d_MO_shown_111 : decode b_MO_shown 111 = .ok (.iload_n 1, 1) := by decide +kernel
theorem d_MO_shown_112 : decode b_MO_shown 112 = .ok (.iaload, 1) := by decide +kernel
theorem d_MO_shown_113 : decode b_MO_shown 113 = .ok (.isub, 1) := by decide +kernel
theorem d_MO_shown_114 : decode b_MO_shown 114 = .ok (.goto 27, 3) := by decide +kernel
theorem d_MO_shown_117 : decode b_MO_shown 117 = .ok (.iload_n 2, 1) := by decide +kernel
theorem d_MO_shown_118 : decode b_MO_shown 118 = .ok (.iconst 2, 1) := by decide +kernel
theorem d_MO_shown_119 : decode b_MO_shown 119 = .ok (.if_icmp .ne 14, 3) := by decide +kernel
theorem d_MO_shown_122 : decode b_MO_shown 122 = .ok (.aload_n 0, 1) := by decide +kernel
theorem d_MO_shown_123 : decode b_MO_shown 123 = .ok (.getfield 140, 3) := by decide +kernel
theorem d_MO_shown_126 : decode b_MO_shown 126 = .ok (.iload_n 1, 1) := by decide +kernel
theorem d_MO_shown_127 : decode b_MO_shown 127 = .ok (.iaload, 1) := by decide +kernel
theorem d_MO_shown_128 : decode b_MO_shown 128 = .ok (.iconst 4, 1) := by decide +kernel
theorem d_MO_shown_129 : decode b_MO_shown 129 = .ok (.idiv, 1) := by decide +kernel
theorem d_MO_shown_130 : decode b_MO_shown 130 = .ok (.goto 11, 3) := by decide +kernel
theorem d_MO_shown_133 : decode b_MO_shown 133 = .ok (.aload_n 0, 1) := by decide +kernel
theorem d_MO_shown_134 : decode b_MO_shown 134 = .ok (.getfield 140, 3) := by decide +kernel
theorem d_MO_shown_137 : decode b_MO_shown 137 = .ok (.iload_n 1, 1) := by decide +kernel
theorem d_MO_shown_138 : decode b_MO_shown 138 = .ok (.iaload, 1) := by decide +kernel
theorem d_MO_shown_139 : decode b_MO_shown 139 = .ok (.iconst 4, 1) := by decide +kernel
theorem d_MO_shown_140 : decode b_MO_shown 140 = .ok (.irem, 1) := by decide +kernel
theorem d_MO_shown_141 : decode b_MO_shown 141 = .ok (.ireturn, 1) := by decide +kernel
theorem d_MO_acknowledge_0 : decode b_MO_acknowledge 0 = .ok (.aload_n 0, 1) := by decide +kernel
theorem d_MO_acknowledge_1 : decode b_MO_acknowledge 1 = .ok (.iconst 0, 1) := by decide +kernel
theorem d_MO_acknowledge_2 : decode b_MO_acknowledge 2 = .ok (.putfield 181, 3) := by decide +kernel
theorem d_MO_acknowledge_5 : decode b_MO_acknowledge 5 = .ok (.iload_n 1, 1) := by decide +kernel
theorem d_MO_acknowledge_6 : decode b_MO_acknowledge 6 = .ok (.invokestatic 185, 3) := by decide +kernel
theorem d_MO_acknowledge_9 : decode b_MO_acknowledge 9 = .ok (.ifCond .eq 26, 3) := by decide +kernel
theorem d_MO_acknowledge_12 : decode b_MO_acknowledge 12 = .ok (.iload_n 2, 1) := by decide +kernel
theorem d_MO_acknowledge_13 : decode b_MO_acknowledge 13 = .ok (.ifCond .lt 22, 3) := by decide +kernel
theorem d_MO_acknowledge_16 : decode b_MO_acknowledge 16 = .ok (.iload_n 2, 1) := by decide +kernel
theorem d_MO_acknowledge_17 : decode b_MO_acknowledge 17 = .ok (.iconst 3, 1) := by decide +kernel
theorem d_MO_acknowledge_18 : decode b_MO_acknowledge 18 = .ok (.if_icmp .gt 17, 3) := by decide +kernel
theorem d_MO_acknowledge_21 : decode b_MO_acknowledge 21 = .ok (.aload_n 0, 1) := by decide +kernel
theorem d_MO_acknowledge_22 : decode b_MO_acknowledge 22 = .ok (.getfield 107, 3) := by decide +kernel
theorem d_MO_acknowledge_25 : decode b_MO_acknowledge 25 = .ok (.iconst 4, 1) := by decide +kernel
theorem d_MO_acknowledge_26 : decode b_MO_acknowledge 26 = .ok (.iload_n 1, 1) := by decide +kernel
theorem d_MO_acknowledge_27 : decode b_MO_acknowledge 27 = .ok (.imul, 1) := by decide +kernel
theorem d_MO_acknowledge_28 : decode b_MO_acknowledge 28 = .ok (.iload_n 2, 1) := by decide +kernel
theorem d_MO_acknowledge_29 : decode b_MO_acknowledge 29 = .ok (.iadd, 1) := by decide +kernel
theorem d_MO_acknowledge_30 : decode b_MO_acknowledge 30 = .ok (.iaload, 1) := by decide +kernel
theorem d_MO_acknowledge_31 : decode b_MO_acknowledge 31 = .ok (.iconst 2, 1) := by decide +kernel
theorem d_MO_acknowledge_32 : decode b_MO_acknowledge 32 = .ok (.if_icmp .eq 5, 3) := by decide +kernel
theorem d_MO_acknowledge_35 : decode b_MO_acknowledge 35 = .ok (.iconst 0, 1) := by decide +kernel
theorem d_MO_acknowledge_36 : decode b_MO_acknowledge 36 = .ok (.ireturn, 1) := by decide +kernel
theorem d_MO_acknowledge_37 : decode b_MO_acknowledge 37 = .ok (.aload_n 0, 1) := by decide +kernel
theorem d_MO_acknowledge_38 : decode b_MO_acknowledge 38 = .ok (.getfield 107, 3) := by decide +kernel
theorem d_MO_acknowledge_41 : decode b_MO_acknowledge 41 = .ok (.iconst 4, 1) := by decide +kernel
theorem d_MO_acknowledge_42 : decode b_MO_acknowledge 42 = .ok (.iload_n 1, 1) := by decide +kernel
theorem d_MO_acknowledge_43 : decode b_MO_acknowledge 43 = .ok (.imul, 1) := by decide +kernel
theorem d_MO_acknowledge_44 : decode b_MO_acknowledge 44 = .ok (.iload_n 2, 1) := by decide +kernel
theorem d_MO_acknowledge_45 : decode b_MO_acknowledge 45 = .ok (.iadd, 1) := by decide +kernel
theorem d_MO_acknowledge_46 : decode b_MO_acknowledge 46 = .ok (.iconst 3, 1) := by decide +kernel
theorem d_MO_acknowledge_47 : decode b_MO_acknowledge 47 = .ok (.iastore, 1) := by decide +kernel
theorem d_MO_acknowledge_48 : decode b_MO_acknowledge 48 = .ok (.aload_n 0, 1) := by decide +kernel
theorem d_MO_acknowledge_49 : decode b_MO_acknowledge 49 = .ok (.iconst 4, 1) := by decide +kernel
theorem d_MO_acknowledge_50 : decode b_MO_acknowledge 50 = .ok (.iload_n 1, 1) := by decide +kernel
theorem d_MO_acknowledge_51 : decode b_MO_acknowledge 51 = .ok (.iload_n 2, 1) := by decide +kernel
theorem d_MO_acknowledge_52 : decode b_MO_acknowledge 52 = .ok (.iconst 0, 1) := by decide +kernel
theorem d_MO_acknowledge_53 : decode b_MO_acknowledge 53 = .ok (.iconst 0, 1) := by decide +kernel
theorem d_MO_acknowledge_54 : decode b_MO_acknowledge 54 = .ok (.invokevirtual 226, 3) := by decide +kernel
theorem d_MO_acknowledge_57 : decode b_MO_acknowledge 57 = .ok (.aload_n 0, 1) := by decide +kernel
theorem d_MO_acknowledge_58 : decode b_MO_acknowledge 58 = .ok (.invokevirtual 211, 3) := by decide +kernel
theorem d_MO_acknowledge_61 : decode b_MO_acknowledge 61 = .ok (.iconst 1, 1) := by decide +kernel
theorem d_MO_acknowledge_62 : decode b_MO_acknowledge 62 = .ok (.ireturn, 1) := by decide +kernel
theorem d_MO_inhibit_0 : decode b_MO_inhibit 0 = .ok (.aload_n 0, 1) := by decide +kernel
theorem d_MO_inhibit_1 : decode b_MO_inhibit 1 = .ok (.iconst 0, 1) := by decide +kernel
theorem d_MO_inhibit_2 : decode b_MO_inhibit 2 = .ok (.putfield 181, 3) := by decide +kernel
theorem d_MO_inhibit_5 : decode b_MO_inhibit 5 = .ok (.aload_n 0, 1) := by decide +kernel
theorem d_MO_inhibit_6 : decode b_MO_inhibit 6 = .ok (.iload_n 1, 1) := by decide +kernel
theorem d_MO_inhibit_7 : decode b_MO_inhibit 7 = .ok (.iconst 2, 1) := by decide +kernel
theorem d_MO_inhibit_8 : decode b_MO_inhibit 8 = .ok (.invokevirtual 197, 3) := by decide +kernel
theorem d_MO_inhibit_11 : decode b_MO_inhibit 11 = .ok (.ifCond .eq 35, 3) := by decide +kernel
theorem d_MO_inhibit_14 : decode b_MO_inhibit 14 = .ok (.aload_n 0, 1) := by decide +kernel
theorem d_MO_inhibit_15 : decode b_MO_inhibit 15 = .ok (.iload_n 1, 1) := by decide +kernel
theorem d_MO_inhibit_16 : decode b_MO_inhibit 16 = .ok (.iload_n 2, 1) := by decide +kernel
theorem d_MO_inhibit_17 : decode b_MO_inhibit 17 = .ok (.invokevirtual 205, 3) := by decide +kernel
theorem d_MO_inhibit_20 : decode b_MO_inhibit 20 = .ok (.ifCond .eq 26, 3) := by decide +kernel
theorem d_MO_inhibit_23 : decode b_MO_inhibit 23 = .ok (.aload_n 0, 1) := by decide +kernel
theorem d_MO_inhibit_24 : decode b_MO_inhibit 24 = .ok (.getfield 68, 3) := by decide +kernel
theorem d_MO_inhibit_27 : decode b_MO_inhibit 27 = .ok (.iconst 4, 1) := by decide +kernel
theorem d_MO_inhibit_28 : decode b_MO_inhibit 28 = .ok (.iload_n 1, 1) := by decide +kernel
theorem d_MO_inhibit_29 : decode b_MO_inhibit 29 = .ok (.imul, 1) := by decide +kernel
theorem d_MO_inhibit_30 : decode b_MO_inhibit 30 = .ok (.iload_n 2, 1) := by decide +kernel
theorem d_MO_inhibit_31 : decode b_MO_inhibit 31 = .ok (.iadd, 1) := by decide +kernel
theorem d_MO_inhibit_32 : decode b_MO_inhibit 32 = .ok (.iaload, 1) := by decide +kernel
theorem d_MO_inhibit_33 : decode b_MO_inhibit 33 = .ok (.ifCond .eq 13, 3) := by decide +kernel
theorem d_MO_inhibit_36 : decode b_MO_inhibit 36 = .ok (.iload_n 3, 1) := by decide +kernel
theorem d_MO_inhibit_37 : decode b_MO_inhibit 37 = .ok (.ifCond .lt 9, 3) := by decide +kernel
theorem d_MO_inhibit_40 : decode b_MO_inhibit 40 = .ok (.iload_n 3, 1) := by decide +kernel
theorem d_MO_inhibit_41 : decode b_MO_inhibit 41 = .ok (.ldc 190, 2) := by decide +kernel
theorem d_MO_inhibit_43 : decode b_MO_inhibit 43 = .ok (.if_icmp .le 5, 3) := by decide +kernel
theorem d_MO_inhibit_46 : decode b_MO_inhibit 46 = .ok (.iconst 0, 1) := by decide +kernel
theorem d_MO_inhibit_47 : decode b_MO_inhibit 47 = .ok (.ireturn, 1) := by decide +kernel
theorem d_MO_inhibit_48 : decode b_MO_inhibit 48 = .ok (.aload_n 0, 1) := by decide +kernel
theorem d_MO_inhibit_49 : decode b_MO_inhibit 49 = .ok (.getfield 95, 3) := by decide +kernel
theorem d_MO_inhibit_52 : decode b_MO_inhibit 52 = .ok (.iconst 4, 1) := by decide +kernel
theorem d_MO_inhibit_53 : decode b_MO_inhibit 53 = .ok (.iload_n 1, 1) := by decide +kernel
theorem d_MO_inhibit_54 : decode b_MO_inhibit 54 = .ok (.imul, 1) := by decide +kernel
theorem d_MO_inhibit_55 : decode b_MO_inhibit 55 = .ok (.iload_n 2, 1) := by decide +kernel
theorem d_MO_inhibit_56 : decode b_MO_inhibit 56 = .ok (.iadd, 1) := by decide +kernel
theorem d_MO_inhibit_57 : decode b_MO_inhibit 57 = .ok (.aload_n 0, 1) := by decide +kernel
theorem d_MO_inhibit_58 : decode b_MO_inhibit 58 = .ok (.getfield 223, 3) := by decide +kernel
theorem d_MO_inhibit_61 : decode b_MO_inhibit 61 = .ok (.iload_n 3, 1) := by decide +kernel
theorem d_MO_inhibit_62 : decode b_MO_inhibit 62 = .ok (.iadd, 1) := by decide +kernel
theorem d_MO_inhibit_63 : decode b_MO_inhibit 63 = .ok (.iastore, 1) := by decide +kernel
theorem d_MO_inhibit_64 : decode b_MO_inhibit 64 = .ok (.aload_n 0, 1) := by decide +kernel
theorem d_MO_inhibit_65 : decode b_MO_inhibit 65 = .ok (.invokevirtual 211, 3) := by decide +kernel
theorem d_MO_inhibit_68 : decode b_MO_inhibit 68 = .ok (.iconst 1, 1) := by decide +kernel
theorem d_MO_inhibit_69 : decode b_MO_inhibit 69 = .ok (.ireturn, 1) := by decide +kernel
theorem d_MO_isController_0 : decode b_MO_isController 0 = .ok (.iload_n 0, 1) := by decide +kernel
theorem d_MO_isController_1 : decode b_MO_isController 1 = .ok (.ifCond .lt 12, 3) := by decide +kernel
theorem d_MO_isController_4 : decode b_MO_isController 4 = .ok (.iload_n 0, 1) := by decide +kernel
theorem d_MO_isController_5 : decode b_MO_isController 5 = .ok (.iconst 4, 1) := by decide +kernel
theorem d_MO_isController_6 : decode b_MO_isController 6 = .ok (.if_icmp .ge 7, 3) := by decide +kernel
theorem d_MO_isController_9 : decode b_MO_isController 9 = .ok (.iconst 1, 1) := by decide +kernel
theorem d_MO_isController_10 : decode b_MO_isController 10 = .ok (.goto 4, 3) := by decide +kernel
theorem d_MO_isController_13 : decode b_MO_isController 13 = .ok (.iconst 0, 1) := by decide +kernel
theorem d_MO_isController_14 : decode b_MO_isController 14 = .ok (.ireturn, 1) := by decide +kernel
theorem d_MO_isLeased_0 : decode b_MO_isLeased 0 = .ok (.aload_n 0, 1) := by decide +kernel
theorem d_MO_isLeased_1 : decode b_MO_isLeased 1 = .ok (.getfield 47, 3) := by decide +kernel
theorem d_MO_isLeased_4 : decode b_MO_isLeased 4 = .ok (.iload_n 1, 1) := by decide +kernel
theorem d_MO_isLeased_5 : decode b_MO_isLeased 5 = .ok (.iaload, 1) := by decide +kernel
theorem d_MO_isLeased_6 : decode b_MO_isLeased 6 = .ok (.iconst (-1), 1) := by decide +kernel
theorem d_MO_isLeased_7 : decode b_MO_isLeased 7 = .ok (.if_icmp .eq 24, 3) := by decide +kernel
theorem d_MO_isLeased_10 : decode b_MO_isLeased 10 = .ok (.aload_n 0, 1) := by decide +kernel
theorem d_MO_isLeased_11 : decode b_MO_isLeased 11 = .ok (.getfield 223, 3) := by decide +kernel
theorem d_MO_isLeased_14 : decode b_MO_isLeased 14 = .ok (.aload_n 0, 1) := by decide +kernel
theorem d_MO_isLeased_15 : decode b_MO_isLeased 15 = .ok (.getfield 50, 3) := by decide +kernel
theorem d_MO_isLeased_18 : decode b_MO_isLeased 18 = .ok (.iload_n 1, 1) := by decide +kernel
theorem d_MO_isLeased_19 : decode b_MO_isLeased 19 = .ok (.iaload, 1) := by decide +kernel
theorem d_MO_isLeased_20 : decode b_MO_isLeased 20 = .ok (.isub, 1) := by decide +kernel
theorem d_MO_isLeased_21 : decode b_MO_isLeased 21 = .ok (.sipush 10000, 3) := by decide +kernel
theorem d_MO_isLeased_24 : decode b_MO_isLeased 24 = .ok (.if_icmp .ge 7, 3) := by decide +kernel
theorem d_MO_isLeased_27 : decode b_MO_isLeased 27 = .ok (.iconst 1, 1) := by decide +kernel
theorem d_MO_isLeased_28 : decode b_MO_isLeased 28 = .ok (.goto 4, 3) := by decide +kernel
theorem d_MO_isLeased_31 : decode b_MO_isLeased 31 = .ok (.iconst 0, 1) := by decide +kernel
theorem d_MO_isLeased_32 : decode b_MO_isLeased 32 = .ok (.ireturn, 1) := by decide +kernel
theorem d_MO_lease_0 : decode b_MO_lease 0 = .ok (.aload_n 0, 1) := by decide +kernel
theorem d_MO_lease_1 : decode b_MO_lease 1 = .ok (.iconst 0, 1) := by decide +kernel
theorem d_MO_lease_2 : decode b_MO_lease 2 = .ok (.putfield 181, 3) := by decide +kernel
theorem d_MO_lease_5 : decode b_MO_lease 5 = .ok (.iload_n 1, 1) := by decide +kernel
theorem d_MO_lease_6 : decode b_MO_lease 6 = .ok (.invokestatic 280, 3) := by decide +kernel
theorem d_MO_lease_9 : decode b_MO_lease 9 = .ok (.ifCond .eq 39, 3) := by decide +kernel
theorem d_MO_lease_12 : decode b_MO_lease 12 = .ok (.aload_n 0, 1) := by decide +kernel
theorem d_MO_lease_13 : decode b_MO_lease 13 = .ok (.iload_n 2, 1) := by decide +kernel
theorem d_MO_lease_14 : decode b_MO_lease 14 = .ok (.iconst 2, 1) := by decide +kernel
theorem d_MO_lease_15 : decode b_MO_lease 15 = .ok (.invokevirtual 197, 3) := by decide +kernel
theorem d_MO_lease_18 : decode b_MO_lease 18 = .ok (.ifCond .eq 30, 3) := by decide +kernel
theorem d_MO_lease_21 : decode b_MO_lease 21 = .ok (.aload_n 0, 1) := by decide +kernel
theorem d_MO_lease_22 : decode b_MO_lease 22 = .ok (.getfield 32, 3) := by decide +kernel
theorem d_MO_lease_25 : decode b_MO_lease 25 = .ok (.iload_n 2, 1) := by decide +kernel
theorem d_MO_lease_26 : decode b_MO_lease 26 = .ok (.baload, 1) := by decide +kernel
theorem d_MO_lease_27 : decode b_MO_lease 27 = .ok (.ifCond .eq 21, 3) := by decide +kernel
theorem d_MO_lease_30 : decode b_MO_lease 30 = .ok (.aload_n 0, 1) := by decide +kernel
theorem d_MO_lease_31 : decode b_MO_lease 31 = .ok (.iload_n 2, 1) := by decide +kernel
theorem d_MO_lease_32 : decode b_MO_lease 32 = .ok (.invokevirtual 283, 3) := by decide +kernel
theorem d_MO_lease_35 : decode b_MO_lease 35 = .ok (.ifCond .eq 15, 3) := by decide +kernel
theorem d_MO_lease_38 : decode b_MO_lease 38 = .ok (.aload_n 0, 1) := by decide +kernel
theorem d_MO_lease_39 : decode b_MO_lease 39 = .ok (.getfield 47, 3) := by decide +kernel
theorem d_MO_lease_42 : decode b_MO_lease 42 = .ok (.iload_n 2, 1) := by decide +kernel
theorem d_MO_lease_43 : decode b_MO_lease 43 = .ok (.iaload, 1) := by decide +kernel
theorem d_MO_lease_44 : decode b_MO_lease 44 = .ok (.iload_n 1, 1) := by decide +kernel
theorem d_MO_lease_45 : decode b_MO_lease 45 = .ok (.if_icmp .eq 5, 3) := by decide +kernel
theorem d_MO_lease_48 : decode b_MO_lease 48 = .ok (.iconst 0, 1) := by decide +kernel
theorem d_MO_lease_49 : decode b_MO_lease 49 = .ok (.ireturn, 1) := by decide +kernel
theorem d_MO_lease_50 : decode b_MO_lease 50 = .ok (.aload_n 0, 1) := by decide +kernel
theorem d_MO_lease_51 : decode b_MO_lease 51 = .ok (.getfield 47, 3) := by decide +kernel
theorem d_MO_lease_54 : decode b_MO_lease 54 = .ok (.iload_n 2, 1) := by decide +kernel
theorem d_MO_lease_55 : decode b_MO_lease 55 = .ok (.iload_n 1, 1) := by decide +kernel
theorem d_MO_lease_56 : decode b_MO_lease 56 = .ok (.iastore, 1) := by decide +kernel
theorem d_MO_lease_57 : decode b_MO_lease 57 = .ok (.aload_n 0, 1) := by decide +kernel
theorem d_MO_lease_58 : decode b_MO_lease 58 = .ok (.getfield 50, 3) := by decide +kernel
theorem d_MO_lease_61 : decode b_MO_lease 61 = .ok (.iload_n 2, 1) := by decide +kernel
theorem d_MO_lease_62 : decode b_MO_lease 62 = .ok (.aload_n 0, 1) := by decide +kernel
theorem d_MO_lease_63 : decode b_MO_lease 63 = .ok (.getfield 223, 3) := by decide +kernel
theorem d_MO_lease_66 : decode b_MO_lease 66 = .ok (.iastore, 1) := by decide +kernel
theorem d_MO_lease_67 : decode b_MO_lease 67 = .ok (.aload_n 0, 1) := by decide +kernel
theorem d_MO_lease_68 : decode b_MO_lease 68 = .ok (.invokevirtual 211, 3) := by decide +kernel
theorem d_MO_lease_71 : decode b_MO_lease 71 = .ok (.iconst 1, 1) := by decide +kernel
theorem d_MO_lease_72 : decode b_MO_lease 72 = .ok (.ireturn, 1) := by decide +kernel
theorem d_MO_order_0 : decode b_MO_order 0 = .ok (.iload_n 1, 1) := by decide +kernel
theorem d_MO_order_1 : decode b_MO_order 1 = .ok (.invokestatic 280, 3) := by decide +kernel
theorem d_MO_order_4 : decode b_MO_order 4 = .ok (.ifCond .eq 36, 3) := by decide +kernel
theorem d_MO_order_7 : decode b_MO_order 7 = .ok (.aload_n 0, 1) := by decide +kernel
theorem d_MO_order_8 : decode b_MO_order 8 = .ok (.iload_n 2, 1) := by decide +kernel
theorem d_MO_order_9 : decode b_MO_order 9 = .ok (.iconst 2, 1) := by decide +kernel
theorem d_MO_order_10 : decode b_MO_order 10 = .ok (.invokevirtual 197, 3) := by decide +kernel
theorem d_MO_order_13 : decode b_MO_order 13 = .ok (.ifCond .eq 27, 3) := by decide +kernel
theorem d_MO_order_16 : decode b_MO_order 16 = .ok (.aload_n 0, 1) := by decide +kernel
theorem d_MO_order_17 : decode b_MO_order 17 = .ok (.getfield 32, 3) := by decide +kernel
theorem d_MO_order_20 : decode b_MO_order 20 = .ok (.iload_n 2, 1) := by decide +kernel
theorem d_MO_order_21 : decode b_MO_order 21 = .ok (.invokestatic 185, 3) := by decide +kernel
theorem d_MO_order_24 : decode b_MO_order 24 = .ok (.ifCond .eq 7, 3) := by decide +kernel
theorem d_MO_order_27 : decode b_MO_order 27 = .ok (.iload_n 2, 1) := by decide +kernel
theorem d_MO_order_28 : decode b_MO_order 28 = .ok (.goto 4, 3) := by decide +kernel
theorem d_MO_order_31 : decode b_MO_order 31 = .ok (.iconst 0, 1) := by decide +kernel
theorem d_MO_order_32 : decode b_MO_order 32 = .ok (.baload, 1) := by decide +kernel
theorem d_MO_order_33 : decode b_MO_order 33 = .ok (.ifCond .eq 7, 3) := by decide +kernel
theorem d_MO_order_36 : decode b_MO_order 36 = .ok (.iconst 1, 1) := by decide +kernel
theorem d_MO_order_37 : decode b_MO_order 37 = .ok (.goto 4, 3) := by decide +kernel
theorem d_MO_order_40 : decode b_MO_order 40 = .ok (.iconst 0, 1) := by decide +kernel
theorem d_MO_order_41 : decode b_MO_order 41 = .ok (.istore 5, 2) := by decide +kernel
theorem d_MO_order_43 : decode b_MO_order 43 = .ok (.aload_n 0, 1) := by decide +kernel
theorem d_MO_order_44 : decode b_MO_order 44 = .ok (.iload 5, 2) := by decide +kernel
theorem d_MO_order_46 : decode b_MO_order 46 = .ok (.ifCond .ne 7, 3) := by decide +kernel
theorem d_MO_order_49 : decode b_MO_order 49 = .ok (.iconst 1, 1) := by decide +kernel
theorem d_MO_order_50 : decode b_MO_order 50 = .ok (.goto 17, 3) := by decide +kernel
theorem d_MO_order_53 : decode b_MO_order 53 = .ok (.aload_n 0, 1) := by decide +kernel
theorem d_MO_order_54 : decode b_MO_order 54 = .ok (.getfield 286, 3) := by decide +kernel
theorem d_MO_order_57 : decode b_MO_order 57 = .ok (.bipush 100, 2) := by decide +kernel
theorem d_MO_order_59 : decode b_MO_order 59 = .ok (.if_icmp .ne 7, 3) := by decide +kernel
theorem d_MO_order_62 : decode b_MO_order 62 = .ok (.iconst 2, 1) := by decide +kernel
theorem d_MO_order_63 : decode b_MO_order 63 = .ok (.goto 4, 3) := by decide +kernel
theorem d_MO_order_66 : decode b_MO_order 66 = .ok (.iconst 0, 1) := by decide +kernel
theorem d_MO_order_67 : decode b_MO_order 67 = .ok (.putfield 181, 3) := by decide +kernel
theorem d_MO_order_70 : decode b_MO_order 70 = .ok (.aload_n 0, 1) := by decide +kernel
theorem d_MO_order_71 : decode b_MO_order 71 = .ok (.getfield 181, 3) := by decide +kernel
theorem d_MO_order_74 : decode b_MO_order 74 = .ok (.ifCond .le 5, 3) := by decide +kernel
theorem d_MO_order_77 : decode b_MO_order 77 = .ok (.iconst 0, 1) := by decide +kernel
theorem d_MO_order_78 : decode b_MO_order 78 = .ok (.ireturn, 1) := by decide +kernel
theorem d_MO_order_79 : decode b_MO_order 79 = .ok (.aload_n 0, 1) := by decide +kernel
theorem d_MO_order_80 : decode b_MO_order 80 = .ok (.getfield 161, 3) := by decide +kernel
theorem d_MO_order_83 : decode b_MO_order 83 = .ok (.aload_n 0, 1) := by decide +kernel
theorem d_MO_order_84 : decode b_MO_order 84 = .ok (.getfield 286, 3) := by decide +kernel
theorem d_MO_order_87 : decode b_MO_order 87 = .ok (.iload_n 1, 1) := by decide +kernel
theorem d_MO_order_88 : decode b_MO_order 88 = .ok (.iastore, 1) := by decide +kernel
theorem d_MO_order_89 : decode b_MO_order 89 = .ok (.aload_n 0, 1) := by decide +kernel
theorem d_MO_order_90 : decode b_MO_order 90 = .ok (.getfield 164, 3) := by decide +kernel
theorem d_MO_order_93 : decode b_MO_order 93 = .ok (.aload_n 0, 1) := by decide +kernel
theorem d_MO_order_94 : decode b_MO_order 94 = .ok (.getfield 286, 3) := by decide +kernel
theorem d_MO_order_97 : decode b_MO_order 97 = .ok (.iload_n 3, 1) := by decide +kernel
theorem d_MO_order_98 : decode b_MO_order 98 = .ok (.iastore, 1) := by decide +kernel
theorem d_MO_order_99 : decode b_MO_order 99 = .ok (.aload_n 0, 1) := by decide +kernel
theorem d_MO_order_100 : decode b_MO_order 100 = .ok (.getfield 167, 3) := by decide +kernel
theorem d_MO_order_103 : decode b_MO_order 103 = .ok (.aload_n 0, 1) := by decide +kernel
theorem d_MO_order_104 : decode b_MO_order 104 = .ok (.getfield 286, 3) := by decide +kernel
theorem d_MO_order_107 : decode b_MO_order 107 = .ok (.iload 4, 2) := by decide +kernel
theorem d_MO_order_109 : decode b_MO_order 109 = .ok (.iastore, 1) := by decide +kernel
theorem d_MO_order_110 : decode b_MO_order 110 = .ok (.aload_n 0, 1) := by decide +kernel
theorem d_MO_order_111 : decode b_MO_order 111 = .ok (.getfield 170, 3) := by decide +kernel
theorem d_MO_order_114 : decode b_MO_order 114 = .ok (.aload_n 0, 1) := by decide +kernel
theorem d_MO_order_115 : decode b_MO_order 115 = .ok (.getfield 286, 3) := by decide +kernel
theorem d_MO_order_118 : decode b_MO_order 118 = .ok (.iconst (-1), 1) := by decide +kernel
theorem d_MO_order_119 : decode b_MO_order 119 = .ok (.iastore, 1) := by decide +kernel
theorem d_MO_order_120 : decode b_MO_order 120 = .ok (.aload_n 0, 1) := by decide +kernel
theorem d_MO_order_121 : decode b_MO_order 121 = .ok (.dup, 1) := by decide +kernel
theorem d_MO_order_122 : decode b_MO_order 122 = .ok (.getfield 286, 3) := by decide +kernel
theorem d_MO_order_125 : decode b_MO_order 125 = .ok (.iconst 1, 1) := by decide +kernel
theorem d_MO_order_126 : decode b_MO_order 126 = .ok (.iadd, 1) := by decide +kernel
theorem d_MO_order_127 : decode b_MO_order 127 = .ok (.putfield 286, 3) := by decide +kernel
theorem d_MO_order_130 : decode b_MO_order 130 = .ok (.aload_n 0, 1) := by decide +kernel
theorem d_MO_order_131 : decode b_MO_order 131 = .ok (.iconst 5, 1) := by decide +kernel
theorem d_MO_order_132 : decode b_MO_order 132 = .ok (.iload_n 2, 1) := by decide +kernel
theorem d_MO_order_133 : decode b_MO_order 133 = .ok (.aload_n 0, 1) := by decide +kernel
theorem d_MO_order_134 : decode b_MO_order 134 = .ok (.getfield 286, 3) := by decide +kernel
theorem d_MO_order_137 : decode b_MO_order 137 = .ok (.iconst 1, 1) := by decide +kernel
theorem d_MO_order_138 : decode b_MO_order 138 = .ok (.isub, 1) := by decide +kernel
theorem d_MO_order_139 : decode b_MO_order 139 = .ok (.iconst 0, 1) := by decide +kernel
theorem d_MO_order_140 : decode b_MO_order 140 = .ok (.iconst 0, 1) := by decide +kernel
theorem d_MO_order_141 : decode b_MO_order 141 = .ok (.invokevirtual 226, 3) := by decide +kernel
theorem d_MO_order_144 : decode b_MO_order 144 = .ok (.aload_n 0, 1) := by decide +kernel
theorem d_MO_order_145 : decode b_MO_order 145 = .ok (.invokevirtual 211, 3) := by decide +kernel
theorem d_MO_order_148 : decode b_MO_order 148 = .ok (.aload_n 0, 1) := by decide +kernel
theorem d_MO_order_149 : decode b_MO_order 149 = .ok (.getfield 286, 3) := by decide +kernel
theorem d_MO_order_152 : decode b_MO_order 152 = .ok (.iconst 1, 1) := by decide +kernel
theorem d_MO_order_153 : decode b_MO_order 153 = .ok (.isub, 1) := by decide +kernel
theorem d_MO_order_154 : decode b_MO_order 154 = .ok (.ireturn, 1) := by decide +kernel
theorem d_MO_local_0 : decode b_MO_local 0 = .ok (.aload_n 0, 1) := by decide +kernel
theorem d_MO_local_1 : decode b_MO_local 1 = .ok (.iconst 0, 1) := by decide +kernel
theorem d_MO_local_2 : decode b_MO_local 2 = .ok (.putfield 181, 3) := by decide +kernel
theorem d_MO_local_5 : decode b_MO_local 5 = .ok (.aload_n 0, 1) := by decide +kernel
theorem d_MO_local_6 : decode b_MO_local 6 = .ok (.iload_n 1, 1) := by decide +kernel
theorem d_MO_local_7 : decode b_MO_local 7 = .ok (.iconst 2, 1) := by decide +kernel
theorem d_MO_local_8 : decode b_MO_local 8 = .ok (.invokevirtual 197, 3) := by decide +kernel
theorem d_MO_local_11 : decode b_MO_local 11 = .ok (.ifCond .eq 12, 3) := by decide +kernel
theorem d_MO_local_14 : decode b_MO_local 14 = .ok (.aload_n 0, 1) := by decide +kernel
theorem d_MO_local_15 : decode b_MO_local 15 = .ok (.getfield 32, 3) := by decide +kernel
theorem d_MO_local_18 : decode b_MO_local 18 = .ok (.iload_n 1, 1) := by decide +kernel
theorem d_MO_local_19 : decode b_MO_local 19 = .ok (.baload, 1) := by decide +kernel
theorem d_MO_local_20 : decode b_MO_local 20 = .ok (.ifCond .ne 5, 3) := by decide +kernel
theorem d_MO_local_23 : decode b_MO_local 23 = .ok (.iconst 0, 1) := by decide +kernel
theorem d_MO_local_24 : decode b_MO_local 24 = .ok (.ireturn, 1) := by decide +kernel
theorem d_MO_local_25 : decode b_MO_local 25 = .ok (.iload_n 2, 1) := by decide +kernel
theorem d_MO_local_26 : decode b_MO_local 26 = .ok (.iconst (-1), 1) := by decide +kernel
theorem d_MO_local_27 : decode b_MO_local 27 = .ok (.if_icmp .eq 49, 3) := by decide +kernel
theorem d_MO_local_30 : decode b_MO_local 30 = .ok (.aload_n 0, 1) := by decide +kernel
theorem d_MO_local_31 : decode b_MO_local 31 = .ok (.getfield 28, 3) := by decide +kernel
theorem d_MO_local_34 : decode b_MO_local 34 = .ok (.iload_n 1, 1) := by decide +kernel
theorem d_MO_local_35 : decode b_MO_local 35 = .ok (.baload, 1) := by decide +kernel
theorem d_MO_local_36 : decode b_MO_local 36 = .ok (.ifCond .ne 28, 3) := by decide +kernel
theorem d_MO_local_39 : decode b_MO_local 39 = .ok (.iload_n 2, 1) := by decide +kernel
theorem d_MO_local_40 : decode b_MO_local 40 = .ok (.aload_n 0, 1) := by decide +kernel
theorem d_MO_local_41 : decode b_MO_local 41 = .ok (.getfield 35, 3) := by decide +kernel
theorem d_MO_local_44 : decode b_MO_local 44 = .ok (.iload_n 1, 1) := by decide +kernel
theorem d_MO_local_45 : decode b_MO_local 45 = .ok (.iaload, 1) := by decide +kernel
theorem d_MO_local_46 : decode b_MO_local 46 = .ok (.aload_n 0, 1) := by decide +kernel
theorem d_MO_local_47 : decode b_MO_local 47 = .ok (.getfield 38, 3) := by decide +kernel
theorem d_MO_local_50 : decode b_MO_local 50 = .ok (.iload_n 1, 1) := by decide +kernel
theorem d_MO_local_51 : decode b_MO_local 51 = .ok (.iaload, 1) := by decide +kernel
theorem d_MO_local_52 : decode b_MO_local 52 = .ok (.aload_n 0, 1) := by decide +kernel
theorem d_MO_local_53 : decode b_MO_local 53 = .ok (.getfield 41, 3) := by decide +kernel
theorem d_MO_local_56 : decode b_MO_local 56 = .ok (.iload_n 1, 1) := by decide +kernel
theorem d_MO_local_57 : decode b_MO_local 57 = .ok (.iaload, 1) := by decide +kernel
theorem d_MO_local_58 : decode b_MO_local 58 = .ok (.invokestatic 240, 3) := by decide +kernel
theorem d_MO_local_61 : decode b_MO_local 61 = .ok (.ifCond .ne 5, 3) := by decide +kernel
theorem d_MO_local_64 : decode b_MO_local 64 = .ok (.iconst 0, 1) := by decide +kernel
theorem d_MO_local_65 : decode b_MO_local 65 = .ok (.ireturn, 1) := by decide +kernel
theorem d_MO_local_66 : decode b_MO_local 66 = .ok (.aload_n 0, 1) := by decide +kernel
theorem d_MO_local_67 : decode b_MO_local 67 = .ok (.getfield 44, 3) := by decide +kernel
theorem d_MO_local_70 : decode b_MO_local 70 = .ok (.iload_n 1, 1) := by decide +kernel
theorem d_MO_local_71 : decode b_MO_local 71 = .ok (.iload_n 2, 1) := by decide +kernel
theorem d_MO_local_72 : decode b_MO_local 72 = .ok (.iastore, 1) := by decide +kernel
theorem d_MO_local_73 : decode b_MO_local 73 = .ok (.goto 10, 3) := by decide +kernel
theorem d_MO_local_76 : decode b_MO_local 76 = .ok (.aload_n 0, 1) := by decide +kernel
theorem d_MO_local_77 : decode b_MO_local 77 = .ok (.getfield 28, 3) := by decide +kernel
theorem d_MO_local_80 : decode b_MO_local 80 = .ok (.iload_n 1, 1) := by decide +kernel
theorem d_MO_local_81 : decode b_MO_local 81 = .ok (.iload_n 3, 1) := by decide +kernel
theorem d_MO_local_82 : decode b_MO_local 82 = .ok (.bastore, 1) := by decide +kernel
theorem d_MO_local_83 : decode b_MO_local 83 = .ok (.aload_n 0, 1) := by decide +kernel
theorem d_MO_local_84 : decode b_MO_local 84 = .ok (.invokevirtual 211, 3) := by decide +kernel
theorem d_MO_local_87 : decode b_MO_local 87 = .ok (.iconst 1, 1) := by decide +kernel
theorem d_MO_local_88 : decode b_MO_local 88 = .ok (.ireturn, 1) := by decide +kernel
theorem d_MO_restart_0 : decode b_MO_restart 0 = .ok (.aload_n 0, 1) := by decide +kernel
theorem d_MO_restart_1 : decode b_MO_restart 1 = .ok (.iconst 0, 1) := by decide +kernel
theorem d_MO_restart_2 : decode b_MO_restart 2 = .ok (.putfield 181, 3) := by decide +kernel
theorem d_MO_restart_5 : decode b_MO_restart 5 = .ok (.aload_n 0, 1) := by decide +kernel
theorem d_MO_restart_6 : decode b_MO_restart 6 = .ok (.iload_n 1, 1) := by decide +kernel
theorem d_MO_restart_7 : decode b_MO_restart 7 = .ok (.iconst 2, 1) := by decide +kernel
theorem d_MO_restart_8 : decode b_MO_restart 8 = .ok (.invokevirtual 197, 3) := by decide +kernel
theorem d_MO_restart_11 : decode b_MO_restart 11 = .ok (.ifCond .ne 5, 3) := by decide +kernel
theorem d_MO_restart_14 : decode b_MO_restart 14 = .ok (.iconst 0, 1) := by decide +kernel
theorem d_MO_restart_15 : decode b_MO_restart 15 = .ok (.ireturn, 1) := by decide +kernel
theorem d_MO_restart_16 : decode b_MO_restart 16 = .ok (.aload_n 0, 1) := by decide +kernel
theorem d_MO_restart_17 : decode b_MO_restart 17 = .ok (.getfield 19, 3) := by decide +kernel
theorem d_MO_restart_20 : decode b_MO_restart 20 = .ok (.iload_n 1, 1) := by decide +kernel
theorem d_MO_restart_21 : decode b_MO_restart 21 = .ok (.dup2, 1) := by decide +kernel
theorem d_MO_restart_22 : decode b_MO_restart 22 = .ok (.iaload, 1) := by decide +kernel
theorem d_MO_restart_23 : decode b_MO_restart 23 = .ok (.iconst 1, 1) := by decide +kernel
theorem d_MO_restart_24 : decode b_MO_restart 24 = .ok (.iadd, 1) := by decide +kernel
theorem d_MO_restart_25 : decode b_MO_restart 25 = .ok (.iastore, 1) := by decide +kernel
theorem d_MO_restart_26 : decode b_MO_restart 26 = .ok (.aload_n 0, 1) := by decide +kernel
theorem d_MO_restart_27 : decode b_MO_restart 27 = .ok (.iload_n 1, 1) := by decide +kernel
theorem d_MO_restart_28 : decode b_MO_restart 28 = .ok (.invokevirtual 176, 3) := by decide +kernel
theorem d_MO_restart_31 : decode b_MO_restart 31 = .ok (.aload_n 0, 1) := by decide +kernel
theorem d_MO_restart_32 : decode b_MO_restart 32 = .ok (.invokevirtual 211, 3) := by decide +kernel
theorem d_MO_restart_35 : decode b_MO_restart 35 = .ok (.iconst 1, 1) := by decide +kernel
theorem d_MO_restart_36 : decode b_MO_restart 36 = .ok (.ireturn, 1) := by decide +kernel
theorem d_MO_isLoud_0 : decode b_MO_isLoud 0 = .ok (.iconst 0, 1) := by decide +kernel
theorem d_MO_isLoud_1 : decode b_MO_isLoud 1 = .ok (.istore_n 2, 1) := by decide +kernel
theorem d_MO_isLoud_2 : decode b_MO_isLoud 2 = .ok (.iconst 4, 1) := by decide +kernel
theorem d_MO_isLoud_3 : decode b_MO_isLoud 3 = .ok (.iload_n 1, 1) := by decide +kernel
theorem d_MO_isLoud_4 : decode b_MO_isLoud 4 = .ok (.imul, 1) := by decide +kernel
theorem d_MO_isLoud_5 : decode b_MO_isLoud 5 = .ok (.istore_n 3, 1) := by decide +kernel
theorem d_MO_isLoud_6 : decode b_MO_isLoud 6 = .ok (.iload_n 3, 1) := by decide +kernel
theorem d_MO_isLoud_7 : decode b_MO_isLoud 7 = .ok (.iconst 4, 1) := by decide +kernel
theorem d_MO_isLoud_8 : decode b_MO_isLoud 8 = .ok (.iload_n 1, 1) := by decide +kernel
theorem d_MO_isLoud_9 : decode b_MO_isLoud 9 = .ok (.imul, 1) := by decide +kernel
theorem d_MO_isLoud_10 : decode b_MO_isLoud 10 = .ok (.iconst 4, 1) := by decide +kernel
theorem d_MO_isLoud_11 : decode b_MO_isLoud 11 = .ok (.iadd, 1) := by decide +kernel
theorem d_MO_isLoud_12 : decode b_MO_isLoud 12 = .ok (.if_icmp .ge 37, 3) := by decide +kernel
theorem d_MO_isLoud_15 : decode b_MO_isLoud 15 = .ok (.iload_n 2, 1) := by decide +kernel
theorem d_MO_isLoud_16 : decode b_MO_isLoud 16 = .ok (.ifCond .ne 21, 3) := by decide +kernel
theorem d_MO_isLoud_19 : decode b_MO_isLoud 19 = .ok (.aload_n 0, 1) := by decide +kernel
theorem d_MO_isLoud_20 : decode b_MO_isLoud 20 = .ok (.getfield 98, 3) := by decide +kernel
theorem d_MO_isLoud_23 : decode b_MO_isLoud 23 = .ok (.iload_n 3, 1) := by decide +kernel
theorem d_MO_isLoud_24 : decode b_MO_isLoud 24 = .ok (.baload, 1) := by decide +kernel
theorem d_MO_isLoud_25 : decode b_MO_isLoud 25 = .ok (.ifCond .eq 16, 3) := by decide +kernel
theorem d_MO_isLoud_28 : decode b_MO_isLoud 28 = .ok (.aload_n 0, 1) := by decide +kernel
theorem d_MO_isLoud_29 : decode b_MO_isLoud 29 = .ok (.getfield 101, 3) := by decide +kernel
theorem d_MO_isLoud_32 : decode b_MO_isLoud 32 = .ok (.iload_n 3, 1) := by decide +kernel
theorem d_MO_isLoud_33 : decode b_MO_isLoud 33 = .ok (.baload, 1) := by decide +kernel
theorem d_MO_isLoud_34 : decode b_MO_isLoud 34 = .ok (.ifCond .ne 7, 3) := by decide +kernel
theorem d_MO_isLoud_37 : decode b_MO_isLoud 37 = .ok (.iconst 1, 1) := by decide +kernel
theorem d_MO_isLoud_38 : decode b_MO_isLoud 38 = .ok (.goto 4, 3) := by decide +kernel
theorem d_MO_isLoud_41 : decode b_MO_isLoud 41 = .ok (.iconst 0, 1) := by decide +kernel
theorem d_MO_isLoud_42 : decode b_MO_isLoud 42 = .ok (.istore_n 2, 1) := by decide +kernel
theorem d_MO_isLoud_43 : decode b_MO_isLoud 43 = .ok (.iinc 3 1, 3) := by decide +kernel
theorem d_MO_isLoud_46 : decode b_MO_isLoud 46 = .ok (.goto (-40), 3) := by decide +kernel
theorem d_MO_isLoud_49 : decode b_MO_isLoud 49 = .ok (.iload_n 2, 1) := by decide +kernel
theorem d_MO_isLoud_50 : decode b_MO_isLoud 50 = .ok (.ifCond .eq 24, 3) := by decide +kernel
theorem d_MO_isLoud_53 : decode b_MO_isLoud 53 = .ok (.aload_n 0, 1) := by decide +kernel
theorem d_MO_isLoud_54 : decode b_MO_isLoud 54 = .ok (.getfield 223, 3) := by decide +kernel
theorem d_MO_isLoud_57 : decode b_MO_isLoud 57 = .ok (.aload_n 0, 1) := by decide +kernel
theorem d_MO_isLoud_58 : decode b_MO_isLoud 58 = .ok (.getfield 53, 3) := by decide +kernel
theorem d_MO_isLoud_61 : decode b_MO_isLoud 61 = .ok (.iload_n 1, 1) := by decide +kernel
theorem d_MO_isLoud_62 : decode b_MO_isLoud 62 = .ok (.iaload, 1) := by decide +kernel
theorem d_MO_isLoud_63 : decode b_MO_isLoud 63 = .ok (.isub, 1) := by decide +kernel
theorem d_MO_isLoud_64 : decode b_MO_isLoud 64 = .ok (.sipush 3000, 3) := by decide +kernel
theorem d_MO_isLoud_67 : decode b_MO_isLoud 67 = .ok (.if_icmp .lt 7, 3) := by decide +kernel
theorem d_MO_isLoud_70 : decode b_MO_isLoud 70 = .ok (.iconst 1, 1) := by decide +kernel
theorem d_MO_isLoud_71 : decode b_MO_isLoud 71 = .ok (.goto 4, 3) := by decide +kernel
theorem d_MO_isLoud_74 : decode b_MO_isLoud 74 = .ok (.iconst 0, 1) := by decide +kernel
theorem d_MO_isLoud_75 : decode b_MO_isLoud 75 = .ok (.ireturn, 1) := by decide +kernel
theorem d_MO_levelOf_0 : decode b_MO_levelOf 0 = .ok (.aload_n 0, 1) := by decide +kernel
theorem d_MO_levelOf_1 : decode b_MO_levelOf 1 = .ok (.getfield 98, 3) := by decide +kernel
theorem d_MO_levelOf_4 : decode b_MO_levelOf 4 = .ok (.iload_n 1, 1) := by decide +kernel
theorem d_MO_levelOf_5 : decode b_MO_levelOf 5 = .ok (.baload, 1) := by decide +kernel
theorem d_MO_levelOf_6 : decode b_MO_levelOf 6 = .ok (.ifCond .eq 12, 3) := by decide +kernel
theorem d_MO_levelOf_9 : decode b_MO_levelOf 9 = .ok (.aload_n 0, 1) := by decide +kernel
theorem d_MO_levelOf_10 : decode b_MO_levelOf 10 = .ok (.getfield 101, 3) := by decide +kernel
theorem d_MO_levelOf_13 : decode b_MO_levelOf 13 = .ok (.iload_n 1, 1) := by decide +kernel
theorem d_MO_levelOf_14 : decode b_MO_levelOf 14 = .ok (.baload, 1) := by decide +kernel
theorem d_MO_levelOf_15 : decode b_MO_levelOf 15 = .ok (.ifCond .eq 5, 3) := by decide +kernel
theorem d_MO_levelOf_18 : decode b_MO_levelOf 18 = .ok (.iconst (-1), 1) := by decide +kernel
theorem d_MO_levelOf_19 : decode b_MO_levelOf 19 = .ok (.ireturn, 1) := by decide +kernel
theorem d_MO_levelOf_20 : decode b_MO_levelOf 20 = .ok (.aload_n 0, 1) := by decide +kernel
theorem d_MO_levelOf_21 : decode b_MO_levelOf 21 = .ok (.getfield 223, 3) := by decide +kernel
theorem d_MO_levelOf_24 : decode b_MO_levelOf 24 = .ok (.aload_n 0, 1) := by decide +kernel
theorem d_MO_levelOf_25 : decode b_MO_levelOf 25 = .ok (.getfield 104, 3) := by decide +kernel
theorem d_MO_levelOf_28 : decode b_MO_levelOf 28 = .ok (.iload_n 1, 1) := by decide +kernel
theorem d_MO_levelOf_29 : decode b_MO_levelOf 29 = .ok (.iaload, 1) := by decide +kernel
theorem d_MO_levelOf_30 : decode b_MO_levelOf 30 = .ok (.isub, 1) := by decide +kernel
theorem d_MO_levelOf_31 : decode b_MO_levelOf 31 = .ok (.istore_n 2, 1) := by decide +kernel
theorem d_MO_levelOf_32 : decode b_MO_levelOf 32 = .ok (.sipush 2000, 3) := by decide +kernel
theorem d_MO_levelOf_35 : decode b_MO_levelOf 35 = .ok (.aload_n 0, 1) := by decide +kernel
theorem d_MO_levelOf_36 : decode b_MO_levelOf 36 = .ok (.getfield 68, 3) := by decide +kernel
theorem d_MO_levelOf_39 : decode b_MO_levelOf 39 = .ok (.iload_n 1, 1) := by decide +kernel
theorem d_MO_levelOf_40 : decode b_MO_levelOf 40 = .ok (.iaload, 1) := by decide +kernel
theorem d_MO_levelOf_41 : decode b_MO_levelOf 41 = .ok (.imul, 1) := by decide +kernel
theorem d_MO_levelOf_42 : decode b_MO_levelOf 42 = .ok (.istore_n 3, 1) := by decide +kernel
theorem d_MO_levelOf_43 : decode b_MO_levelOf 43 = .ok (.iload_n 2, 1) := by decide +kernel
theorem d_MO_levelOf_44 : decode b_MO_levelOf 44 = .ok (.iload_n 3, 1) := by decide +kernel
theorem d_MO_levelOf_45 : decode b_MO_levelOf 45 = .ok (.if_icmp .ge 7, 3) := by decide +kernel
theorem d_MO_levelOf_48 : decode b_MO_levelOf 48 = .ok (.iconst 0, 1) := by decide +kernel
theorem d_MO_levelOf_49 : decode b_MO_levelOf 49 = .ok (.goto 26, 3) := by decide +kernel
theorem d_MO_levelOf_52 : decode b_MO_levelOf 52 = .ok (.iload_n 2, 1) := by decide +kernel
theorem d_MO_levelOf_53 : decode b_MO_levelOf 53 = .ok (.iconst 2, 1) := by decide +kernel
theorem d_MO_levelOf_54 : decode b_MO_levelOf 54 = .ok (.iload_n 3, 1) := by decide +kernel
theorem d_MO_levelOf_55 : decode b_MO_levelOf 55 = .ok (.imul, 1) := by decide +kernel
theorem d_MO_levelOf_56 : decode b_MO_levelOf 56 = .ok (.if_icmp .ge 7, 3) := by decide +kernel
theorem d_MO_levelOf_59 : decode b_MO_levelOf 59 = .ok (.iconst 1, 1) := by decide +kernel
theorem d_MO_levelOf_60 : decode b_MO_levelOf 60 = .ok (.goto 15, 3) := by decide +kernel
theorem d_MO_levelOf_63 : decode b_MO_levelOf 63 = .ok (.iload_n 2, 1) := by decide +kernel
theorem d_MO_levelOf_64 : decode b_MO_levelOf 64 = .ok (.iconst 4, 1) := by decide +kernel
theorem d_MO_levelOf_65 : decode b_MO_levelOf 65 = .ok (.iload_n 3, 1) := by decide +kernel
theorem d_MO_levelOf_66 : decode b_MO_levelOf 66 = .ok (.imul, 1) := by decide +kernel
theorem d_MO_levelOf_67 : decode b_MO_levelOf 67 = .ok (.if_icmp .ge 7, 3) := by decide +kernel
theorem d_MO_levelOf_70 : decode b_MO_levelOf 70 = .ok (.iconst 2, 1) := by decide +kernel
theorem d_MO_levelOf_71 : decode b_MO_levelOf 71 = .ok (.goto 4, 3) := by decide +kernel
theorem d_MO_levelOf_74 : decode b_MO_levelOf 74 = .ok (.iconst 3, 1) := by decide +kernel
theorem d_MO_levelOf_75 : decode b_MO_levelOf 75 = .ok (.ireturn, 1) := by decide +kernel
theorem d_MO_lookChannel_0 : decode b_MO_lookChannel 0 = .ok (.iload_n 2, 1) := by decide +kernel
theorem d_MO_lookChannel_1 : decode b_MO_lookChannel 1 = .ok (.bipush 10, 2) := by decide +kernel
theorem d_MO_lookChannel_3 : decode b_MO_lookChannel 3 = .ok (.isub, 1) := by decide +kernel
theorem d_MO_lookChannel_4 : decode b_MO_lookChannel 4 = .ok (.bipush 8, 2) := by decide +kernel
theorem d_MO_lookChannel_6 : decode b_MO_lookChannel 6 = .ok (.idiv, 1) := by decide +kernel
theorem d_MO_lookChannel_7 : decode b_MO_lookChannel 7 = .ok (.istore_n 3, 1) := by decide +kernel
theorem d_MO_lookChannel_8 : decode b_MO_lookChannel 8 = .ok (.iconst 4, 1) := by decide +kernel
theorem d_MO_lookChannel_9 : decode b_MO_lookChannel 9 = .ok (.iload_n 1, 1) := by decide +kernel
theorem d_MO_lookChannel_10 : decode b_MO_lookChannel 10 = .ok (.imul, 1) := by decide +kernel
theorem d_MO_lookChannel_11 : decode b_MO_lookChannel 11 = .ok (.iload_n 3, 1) := by decide +kernel
theorem d_MO_lookChannel_12 : decode b_MO_lookChannel 12 = .ok (.iadd, 1) := by decide +kernel
theorem d_MO_lookChannel_13 : decode b_MO_lookChannel 13 = .ok (.istore 4, 2) := by decide +kernel
theorem d_MO_lookChannel_15 : decode b_MO_lookChannel 15 = .ok (.iload_n 3, 1) := by decide +kernel
theorem d_MO_lookChannel_16 : decode b_MO_lookChannel 16 = .ok (.aload_n 0, 1) := by decide +kernel
theorem d_MO_lookChannel_17 : decode b_MO_lookChannel 17 = .ok (.getfield 22, 3) := by decide +kernel
theorem d_MO_lookChannel_20 : decode b_MO_lookChannel 20 = .ok (.iload_n 1, 1) := by decide +kernel
theorem d_MO_lookChannel_21 : decode b_MO_lookChannel 21 = .ok (.iaload, 1) := by decide +kernel
theorem d_MO_lookChannel_22 : decode b_MO_lookChannel 22 = .ok (.if_icmp .lt 5, 3) := by decide +kernel
theorem d_MO_lookChannel_25 : decode b_MO_lookChannel 25 = .ok (.iconst (-1), 1) := by decide +kernel
theorem d_MO_lookChannel_26 : decode b_MO_lookChannel 26 = .ok (.ireturn, 1) := by decide +kernel
theorem d_MO_lookChannel_27 : decode b_MO_lookChannel 27 = .ok (.iload_n 2, 1) := by decide +kernel
theorem d_MO_lookChannel_28 : decode b_MO_lookChannel 28 = .ok (.bipush 10, 2) := by decide +kernel
theorem d_MO_lookChannel_30 : decode b_MO_lookChannel 30 = .ok (.isub, 1) := by decide +kernel
theorem d_MO_lookChannel_31 : decode b_MO_lookChannel 31 = .ok (.bipush 8, 2) := by decide +kernel
theorem d_MO_lookChannel_33 : decode b_MO_lookChannel 33 = .ok (.irem, 1) := by decide +kernel
theorem d_MO_lookChannel_34 : decode b_MO_lookChannel 34 = .ok (.tableswitch 119 0 3 #[30, 74, 81, 97], 30) := by decide +kernel
theorem d_MO_lookChannel_64 : decode b_MO_lookChannel 64 = .ok (.aload_n 0, 1) := by decide +kernel
theorem d_MO_lookChannel_65 : decode b_MO_lookChannel 65 = .ok (.getfield 68, 3) := by decide +kernel
theorem d_MO_lookChannel_68 : decode b_MO_lookChannel 68 = .ok (.iload 4, 2) := by decide +kernel
theorem d_MO_lookChannel_70 : decode b_MO_lookChannel 70 = .ok (.iaload, 1) := by decide +kernel
theorem d_MO_lookChannel_71 : decode b_MO_lookChannel 71 = .ok (.ifCond .ne 7, 3) := by decide +kernel
theorem d_MO_lookChannel_74 : decode b_MO_lookChannel 74 = .ok (.iconst 0, 1) := by decide +kernel
theorem d_MO_lookChannel_75 : decode b_MO_lookChannel 75 = .ok (.goto 32, 3) := by decide +kernel
theorem d_MO_lookChannel_78 : decode b_MO_lookChannel 78 = .ok (.aload_n 0, 1) := by decide +kernel
theorem d_MO_lookChannel_79 : decode b_MO_lookChannel 79 = .ok (.getfield 98, 3) := by decide +kernel
theorem d_MO_lookChannel_82 : decode b_MO_lookChannel 82 = .ok (.iload 4, 2) := by decide +kernel
theorem d_MO_lookChannel_84 : decode b_MO_lookChannel 84 = .ok (.baload, 1) := by decide +kernel
theorem d_MO_lookChannel_85 : decode b_MO_lookChannel 85 = .ok (.ifCond .ne 7, 3) := by decide +kernel
theorem d_MO_lookChannel_88 : decode b_MO_lookChannel 88 = .ok (.iconst 1, 1) := by decide +kernel
theorem d_MO_lookChannel_89 : decode b_MO_lookChannel 89 = .ok (.goto 18, 3) := by decide +kernel
theorem d_MO_lookChannel_92 : decode b_MO_lookChannel 92 = .ok (.aload_n 0, 1) := by decide +kernel
theorem d_MO_lookChannel_93 : decode b_MO_lookChannel 93 = .ok (.getfield 101, 3) := by decide +kernel
theorem d_MO_lookChannel_96 : decode b_MO_lookChannel 96 = .ok (.iload 4, 2) := by decide +kernel
theorem d_MO_lookChannel_98 : decode b_MO_lookChannel 98 = .ok (.baload, 1) := by decide +kernel
theorem d_MO_lookChannel_99 : decode b_MO_lookChannel 99 = .ok (.ifCond .eq 7, 3) := by decide +kernel
theorem d_MO_lookChannel_102 : decode b_MO_lookChannel 102 = .ok (.iconst 3, 1) := by decide +kernel
theorem d_MO_lookChannel_103 : decode b_MO_lookChannel 103 = .ok (.goto 4, 3) := by decide +kernel
theorem d_MO_lookChannel_106 : decode b_MO_lookChannel 106 = .ok (.iconst 2, 1) := by decide +kernel
theorem d_MO_lookChannel_107 : decode b_MO_lookChannel 107 = .ok (.ireturn, 1) := by decide +kernel
theorem d_MO_lookChannel_108 : decode b_MO_lookChannel 108 = .ok (.aload_n 0, 1) := by decide +kernel
theorem d_MO_lookChannel_109 : decode b_MO_lookChannel 109 = .ok (.iload 4, 2) := by decide +kernel
theorem d_MO_lookChannel_111 : decode b_MO_lookChannel 111 = .ok (.invokevirtual 288, 3) := by decide +kernel
theorem d_MO_lookChannel_114 : decode b_MO_lookChannel 114 = .ok (.ireturn, 1) := by decide +kernel
theorem d_MO_lookChannel_115 : decode b_MO_lookChannel 115 = .ok (.aload_n 0, 1) := by decide +kernel
theorem d_MO_lookChannel_116 : decode b_MO_lookChannel 116 = .ok (.getfield 77, 3) := by decide +kernel
theorem d_MO_lookChannel_119 : decode b_MO_lookChannel 119 = .ok (.iload 4, 2) := by decide +kernel
theorem d_MO_lookChannel_121 : decode b_MO_lookChannel 121 = .ok (.baload, 1) := by decide +kernel
theorem d_MO_lookChannel_122 : decode b_MO_lookChannel 122 = .ok (.ifCond .eq 7, 3) := by decide +kernel
theorem d_MO_lookChannel_125 : decode b_MO_lookChannel 125 = .ok (.iconst 1, 1) := by decide +kernel
theorem d_MO_lookChannel_126 : decode b_MO_lookChannel 126 = .ok (.goto 4, 3) := by decide +kernel
theorem d_MO_lookChannel_129 : decode b_MO_lookChannel 129 = .ok (.iconst 0, 1) := by decide +kernel
theorem d_MO_lookChannel_130 : decode b_MO_lookChannel 130 = .ok (.ireturn, 1) := by decide +kernel
theorem d_MO_lookChannel_131 : decode b_MO_lookChannel 131 = .ok (.aload_n 0, 1) := by decide +kernel
theorem d_MO_lookChannel_132 : decode b_MO_lookChannel 132 = .ok (.getfield 77, 3) := by decide +kernel
theorem d_MO_lookChannel_135 : decode b_MO_lookChannel 135 = .ok (.iload 4, 2) := by decide +kernel
theorem d_MO_lookChannel_137 : decode b_MO_lookChannel 137 = .ok (.baload, 1) := by decide +kernel
theorem d_MO_lookChannel_138 : decode b_MO_lookChannel 138 = .ok (.ifCond .eq 13, 3) := by decide +kernel
theorem d_MO_lookChannel_141 : decode b_MO_lookChannel 141 = .ok (.aload_n 0, 1) := by decide +kernel
theorem d_MO_lookChannel_142 : decode b_MO_lookChannel 142 = .ok (.getfield 83, 3) := by decide +kernel
theorem d_MO_lookChannel_145 : decode b_MO_lookChannel 145 = .ok (.iload 4, 2) := by decide +kernel
theorem d_MO_lookChannel_147 : decode b_MO_lookChannel 147 = .ok (.iaload, 1) := by decide +kernel
theorem d_MO_lookChannel_148 : decode b_MO_lookChannel 148 = .ok (.goto 4, 3) := by decide +kernel
theorem d_MO_lookChannel_151 : decode b_MO_lookChannel 151 = .ok (.iconst (-1), 1) := by decide +kernel
theorem d_MO_lookChannel_152 : decode b_MO_lookChannel 152 = .ok (.ireturn, 1) := by decide +kernel
theorem d_MO_lookChannel_153 : decode b_MO_lookChannel 153 = .ok (.aload_n 0, 1) := by decide +kernel
theorem d_MO_lookChannel_154 : decode b_MO_lookChannel 154 = .ok (.getfield 107, 3) := by decide +kernel
theorem d_MO_lookChannel_157 : decode b_MO_lookChannel 157 = .ok (.iload 4, 2) := by decide +kernel
theorem d_MO_lookChannel_159 : decode b_MO_lookChannel 159 = .ok (.iaload, 1) := by decide +kernel
theorem d_MO_lookChannel_160 : decode b_MO_lookChannel 160 = .ok (.ireturn, 1) := by decide +kernel
theorem d_MO_look_0 : decode b_MO_look 0 = .ok (.iload_n 1, 1) := by decide +kernel
theorem d_MO_look_1 : decode b_MO_look 1 = .ok (.invokestatic 185, 3) := by decide +kernel
theorem d_MO_look_4 : decode b_MO_look 4 = .ok (.ifCond .eq 40, 3) := by decide +kernel
theorem d_MO_look_7 : decode b_MO_look 7 = .ok (.iload_n 2, 1) := by decide +kernel
theorem d_MO_look_8 : decode b_MO_look 8 = .ok (.ifCond .lt 9, 3) := by decide +kernel
theorem d_MO_look_11 : decode b_MO_look 11 = .ok (.iload_n 2, 1) := by decide +kernel
theorem d_MO_look_12 : decode b_MO_look 12 = .ok (.bipush 10, 2) := by decide +kernel
theorem d_MO_look_14 : decode b_MO_look 14 = .ok (.if_icmp .lt 26, 3) := by decide +kernel
theorem d_MO_look_17 : decode b_MO_look 17 = .ok (.iload_n 2, 1) := by decide +kernel
theorem d_MO_look_18 : decode b_MO_look 18 = .ok (.bipush 10, 2) := by decide +kernel
theorem d_MO_look_20 : decode b_MO_look 20 = .ok (.if_icmp .lt 24, 3) := by decide +kernel
theorem d_MO_look_23 : decode b_MO_look 23 = .ok (.iload_n 2, 1) := by decide +kernel
theorem d_MO_look_24 : decode b_MO_look 24 = .ok (.bipush 42, 2) := by decide +kernel
theorem d_MO_look_26 : decode b_MO_look 26 = .ok (.if_icmp .ge 18, 3) := by decide +kernel
theorem d_MO_look_29 : decode b_MO_look 29 = .ok (.iload_n 2, 1) := by decide +kernel
theorem d_MO_look_30 : decode b_MO_look 30 = .ok (.bipush 10, 2) := by decide +kernel
theorem d_MO_look_32 : decode b_MO_look 32 = .ok (.isub, 1) := by decide +kernel
theorem d_MO_look_33 : decode b_MO_look 33 = .ok (.bipush 8, 2) := by decide +kernel
theorem d_MO_look_35 : decode b_MO_look 35 = .ok (.irem, 1) := by decide +kernel
theorem d_MO_look_36 : decode b_MO_look 36 = .ok (.iconst 5, 1) := by decide +kernel
theorem d_MO_look_37 : decode b_MO_look 37 = .ok (.if_icmp .ge 7, 3) := by decide +kernel
theorem d_MO_look_40 : decode b_MO_look 40 = .ok (.iconst 1, 1) := by decide +kernel
theorem d_MO_look_41 : decode b_MO_look 41 = .ok (.goto 4, 3) := by decide +kernel
theorem d_MO_look_44 : decode b_MO_look 44 = .ok (.iconst 0, 1) := by decide +kernel
theorem d_MO_look_45 : decode b_MO_look 45 = .ok (.istore_n 3, 1) := by decide +kernel
theorem d_MO_look_46 : decode b_MO_look 46 = .ok (.aload_n 0, 1) := by decide +kernel
theorem d_MO_look_47 : decode b_MO_look 47 = .ok (.iload_n 3, 1) := by decide +kernel
theorem d_MO_look_48 : decode b_MO_look 48 = .ok (.ifCond .eq 7, 3) := by decide +kernel
theorem d_MO_look_51 : decode b_MO_look 51 = .ok (.iconst 0, 1) := by decide +kernel
theorem d_MO_look_52 : decode b_MO_look 52 = .ok (.goto 4, 3) := by decide +kernel
theorem d_MO_look_55 : decode b_MO_look 55 = .ok (.iconst 1, 1) := by decide +kernel
theorem d_MO_look_56 : decode b_MO_look 56 = .ok (.putfield 181, 3) := by decide +kernel
theorem d_MO_look_59 : decode b_MO_look 59 = .ok (.iload_n 3, 1) := by decide +kernel
theorem d_MO_look_60 : decode b_MO_look 60 = .ok (.ifCond .ne 5, 3) := by decide +kernel
theorem d_MO_look_63 : decode b_MO_look 63 = .ok (.iconst 0, 1) := by decide +kernel
theorem d_MO_look_64 : decode b_MO_look 64 = .ok (.ireturn, 1) := by decide +kernel
theorem d_MO_look_65 : decode b_MO_look 65 = .ok (.iload_n 2, 1) := by decide +kernel
theorem d_MO_look_66 : decode b_MO_look 66 = .ok (.tableswitch 185 0 9 #[54, 61, 81, 88, 95, 102, 116, 136, 155, 170], 54) := by decide +kernel
theorem d_MO_look_120 : decode b_MO_look 120 = .ok (.aload_n 0, 1) := by decide +kernel
theorem d_MO_look_121 : decode b_MO_look 121 = .ok (.getfield 13, 3) := by decide +kernel
theorem d_MO_look_124 : decode b_MO_look 124 = .ok (.iload_n 1, 1) := by decide +kernel
theorem d_MO_look_125 : decode b_MO_look 125 = .ok (.iaload, 1) := by decide +kernel
theorem d_MO_look_126 : decode b_MO_look 126 = .ok (.ireturn, 1) := by decide +kernel
theorem d_MO_look_127 : decode b_MO_look 127 = .ok (.aload_n 0, 1) := by decide +kernel
theorem d_MO_look_128 : decode b_MO_look 128 = .ok (.getfield 13, 3) := by decide +kernel
theorem d_MO_look_131 : decode b_MO_look 131 = .ok (.iload_n 1, 1) := by decide +kernel
theorem d_MO_look_132 : decode b_MO_look 132 = .ok (.iaload, 1) := by decide +kernel
theorem d_MO_look_133 : decode b_MO_look 133 = .ok (.ifCond .ne 7, 3) := by decide +kernel
theorem d_MO_look_136 : decode b_MO_look 136 = .ok (.iconst (-1), 1) := by decide +kernel
theorem d_MO_look_137 : decode b_MO_look 137 = .ok (.goto 9, 3) := by decide +kernel
theorem d_MO_look_140 : decode b_MO_look 140 = .ok (.aload_n 0, 1) := by decide +kernel
theorem d_MO_look_141 : decode b_MO_look 141 = .ok (.getfield 16, 3) := by decide +kernel
theorem d_MO_look_144 : decode b_MO_look 144 = .ok (.iload_n 1, 1) := by decide +kernel
theorem d_MO_look_145 : decode b_MO_look 145 = .ok (.iaload, 1) := by decide +kernel
theorem d_MO_look_146 : decode b_MO_look 146 = .ok (.ireturn, 1) := by decide +kernel
theorem d_MO_look_147 : decode b_MO_look 147 = .ok (.aload_n 0, 1) := by decide +kernel
theorem d_MO_look_148 : decode b_MO_look 148 = .ok (.getfield 19, 3) := by decide +kernel
theorem d_MO_look_151 : decode b_MO_look 151 = .ok (.iload_n 1, 1) := by decide +kernel
theorem d_MO_look_152 : decode b_MO_look 152 = .ok (.iaload, 1) := by decide +kernel
theorem d_MO_look_153 : decode b_MO_look 153 = .ok (.ireturn, 1) := by decide +kernel
theorem d_MO_look_154 : decode b_MO_look 154 = .ok (.aload_n 0, 1) := by decide +kernel
theorem d_MO_look_155 : decode b_MO_look 155 = .ok (.getfield 22, 3) := by decide +kernel
theorem d_MO_look_158 : decode b_MO_look 158 = .ok (.iload_n 1, 1) := by decide +kernel
theorem d_MO_look_159 : decode b_MO_look 159 = .ok (.iaload, 1) := by decide +kernel
theorem d_MO_look_160 : decode b_MO_look 160 = .ok (.ireturn, 1) := by decide +kernel
theorem d_MO_look_161 : decode b_MO_look 161 = .ok (.aload_n 0, 1) := by decide +kernel
theorem d_MO_look_162 : decode b_MO_look 162 = .ok (.getfield 25, 3) := by decide +kernel
theorem d_MO_look_165 : decode b_MO_look 165 = .ok (.iload_n 1, 1) := by decide +kernel
theorem d_MO_look_166 : decode b_MO_look 166 = .ok (.iaload, 1) := by decide +kernel
theorem d_MO_look_167 : decode b_MO_look 167 = .ok (.ireturn, 1) := by decide +kernel
theorem d_MO_look_168 : decode b_MO_look 168 = .ok (.aload_n 0, 1) := by decide +kernel
theorem d_MO_look_169 : decode b_MO_look 169 = .ok (.iload_n 1, 1) := by decide +kernel
theorem d_MO_look_170 : decode b_MO_look 170 = .ok (.invokevirtual 291, 3) := by decide +kernel
theorem d_MO_look_173 : decode b_MO_look 173 = .ok (.ifCond .eq 7, 3) := by decide +kernel
theorem d_MO_look_176 : decode b_MO_look 176 = .ok (.iconst 1, 1) := by decide +kernel
theorem d_MO_look_177 : decode b_MO_look 177 = .ok (.goto 4, 3) := by decide +kernel
theorem d_MO_look_180 : decode b_MO_look 180 = .ok (.iconst 0, 1) := by decide +kernel
theorem d_MO_look_181 : decode b_MO_look 181 = .ok (.ireturn, 1) := by decide +kernel
theorem d_MO_look_182 : decode b_MO_look 182 = .ok (.aload_n 0, 1) := by decide +kernel
theorem d_MO_look_183 : decode b_MO_look 183 = .ok (.getfield 32, 3) := by decide +kernel
theorem d_MO_look_186 : decode b_MO_look 186 = .ok (.iload_n 1, 1) := by decide +kernel
theorem d_MO_look_187 : decode b_MO_look 187 = .ok (.baload, 1) := by decide +kernel
theorem d_MO_look_188 : decode b_MO_look 188 = .ok (.ifCond .eq 12, 3) := by decide +kernel
theorem d_MO_look_191 : decode b_MO_look 191 = .ok (.aload_n 0, 1) := by decide +kernel
theorem d_MO_look_192 : decode b_MO_look 192 = .ok (.getfield 44, 3) := by decide +kernel
theorem d_MO_look_195 : decode b_MO_look 195 = .ok (.iload_n 1, 1) := by decide +kernel
theorem d_MO_look_196 : decode b_MO_look 196 = .ok (.iaload, 1) := by decide +kernel
theorem d_MO_look_197 : decode b_MO_look 197 = .ok (.goto 4, 3) := by decide +kernel
theorem d_MO_look_200 : decode b_MO_look 200 = .ok (.iconst (-1), 1) := by decide +kernel
theorem d_MO_look_201 : decode b_MO_look 201 = .ok (.ireturn, 1) := by decide +kernel
theorem d_MO_look_202 : decode b_MO_look 202 = .ok (.aload_n 0, 1) := by decide +kernel
theorem d_MO_look_203 : decode b_MO_look 203 = .ok (.iload_n 1, 1) := by decide +kernel
theorem d_MO_look_204 : decode b_MO_look 204 = .ok (.invokevirtual 283, 3) := by decide +kernel
theorem d_MO_look_207 : decode b_MO_look 207 = .ok (.ifCond .eq 12, 3) := by decide +kernel
theorem d_MO_look_210 : decode b_MO_look 210 = .ok (.aload_n 0, 1) := by decide +kernel
theorem d_MO_look_211 : decode b_MO_look 211 = .ok (.getfield 47, 3) := by decide +kernel
theorem d_MO_look_214 : decode b_MO_look 214 = .ok (.iload_n 1, 1) := by decide +kernel
theorem d_MO_look_215 : decode b_MO_look 215 = .ok (.iaload, 1) := by decide +kernel
theorem d_MO_look_216 : decode b_MO_look 216 = .ok (.goto 4, 3) := by decide +kernel
theorem d_MO_look_219 : decode b_MO_look 219 = .ok (.iconst (-1), 1) := by decide +kernel
theorem d_MO_look_220 : decode b_MO_look 220 = .ok (.ireturn, 1) := by decide +kernel
theorem d_MO_look_221 : decode b_MO_look 221 = .ok (.aload_n 0, 1) := by decide +kernel
theorem d_MO_look_222 : decode b_MO_look 222 = .ok (.getfield 28, 3) := by decide +kernel
theorem d_MO_look_225 : decode b_MO_look 225 = .ok (.iload_n 1, 1) := by decide +kernel
theorem d_MO_look_226 : decode b_MO_look 226 = .ok (.baload, 1) := by decide +kernel
theorem d_MO_look_227 : decode b_MO_look 227 = .ok (.ifCond .eq 7, 3) := by decide +kernel
theorem d_MO_look_230 : decode b_MO_look 230 = .ok (.iconst 1, 1) := by decide +kernel
theorem d_MO_look_231 : decode b_MO_look 231 = .ok (.goto 4, 3) := by decide +kernel
theorem d_MO_look_234 : decode b_MO_look 234 = .ok (.iconst 0, 1) := by decide +kernel
theorem d_MO_look_235 : decode b_MO_look 235 = .ok (.ireturn, 1) := by decide +kernel
theorem d_MO_look_236 : decode b_MO_look 236 = .ok (.aload_n 0, 1) := by decide +kernel
theorem d_MO_look_237 : decode b_MO_look 237 = .ok (.getfield 32, 3) := by decide +kernel
theorem d_MO_look_240 : decode b_MO_look 240 = .ok (.iload_n 1, 1) := by decide +kernel
theorem d_MO_look_241 : decode b_MO_look 241 = .ok (.baload, 1) := by decide +kernel
theorem d_MO_look_242 : decode b_MO_look 242 = .ok (.ifCond .eq 7, 3) := by decide +kernel
theorem d_MO_look_245 : decode b_MO_look 245 = .ok (.iconst 1, 1) := by decide +kernel
theorem d_MO_look_246 : decode b_MO_look 246 = .ok (.goto 4, 3) := by decide +kernel
theorem d_MO_look_249 : decode b_MO_look 249 = .ok (.iconst 0, 1) := by decide +kernel
theorem d_MO_look_250 : decode b_MO_look 250 = .ok (.ireturn, 1) := by decide +kernel
theorem d_MO_look_251 : decode b_MO_look 251 = .ok (.aload_n 0, 1) := by decide +kernel
theorem d_MO_look_252 : decode b_MO_look 252 = .ok (.iload_n 1, 1) := by decide +kernel
theorem d_MO_look_253 : decode b_MO_look 253 = .ok (.iload_n 2, 1) := by decide +kernel
theorem d_MO_look_254 : decode b_MO_look 254 = .ok (.invokevirtual 294, 3) := by decide +kernel
theorem d_MO_look_257 : decode b_MO_look 257 = .ok (.ireturn, 1) := by decide +kernel
theorem d_MO_message_0 : decode b_MO_message 0 = .ok (.aload_n 0, 1) := by decide +kernel
theorem d_MO_message_1 : decode b_MO_message 1 = .ok (.iload_n 1, 1) := by decide +kernel
theorem d_MO_message_2 : decode b_MO_message 2 = .ok (.invokevirtual 262, 3) := by decide +kernel
theorem d_MO_message_5 : decode b_MO_message 5 = .ok (.istore_n 3, 1) := by decide +kernel
theorem d_MO_message_6 : decode b_MO_message 6 = .ok (.aload_n 0, 1) := by decide +kernel
theorem d_MO_message_7 : decode b_MO_message 7 = .ok (.iload_n 3, 1) := by decide +kernel
theorem d_MO_message_8 : decode b_MO_message 8 = .ok (.ifCond .ge 7, 3) := by decide +kernel
theorem d_MO_message_11 : decode b_MO_message 11 = .ok (.iconst 1, 1) := by decide +kernel
theorem d_MO_message_12 : decode b_MO_message 12 = .ok (.goto 17, 3) := by decide +kernel
theorem d_MO_message_15 : decode b_MO_message 15 = .ok (.iload_n 2, 1) := by decide +kernel
theorem d_MO_message_16 : decode b_MO_message 16 = .ok (.ifCond .lt 8, 3) := by decide +kernel
theorem d_MO_message_19 : decode b_MO_message 19 = .ok (.iload_n 2, 1) := by decide +kernel
theorem d_MO_message_20 : decode b_MO_message 20 = .ok (.iconst 4, 1) := by decide +kernel
theorem d_MO_message_21 : decode b_MO_message 21 = .ok (.if_icmp .le 7, 3) := by decide +kernel
theorem d_MO_message_24 : decode b_MO_message 24 = .ok (.iconst 2, 1) := by decide +kernel
theorem d_MO_message_25 : decode b_MO_message 25 = .ok (.goto 4, 3) := by decide +kernel
theorem d_MO_message_28 : decode b_MO_message 28 = .ok (.iconst 0, 1) := by decide +kernel
theorem d_MO_message_29 : decode b_MO_message 29 = .ok (.putfield 181, 3) := by decide +kernel
theorem d_MO_message_32 : decode b_MO_message 32 = .ok (.aload_n 0, 1) := by decide +kernel
theorem d_MO_message_33 : decode b_MO_message 33 = .ok (.getfield 181, 3) := by decide +kernel
theorem d_MO_message_36 : decode b_MO_message 36 = .ok (.ifCond .le 5, 3) := by decide +kernel
theorem d_MO_message_39 : decode b_MO_message 39 = .ok (.iconst 0, 1) := by decide +kernel
theorem d_MO_message_40 : decode b_MO_message 40 = .ok (.ireturn, 1) := by decide +kernel
theorem d_MO_message_41 : decode b_MO_message 41 = .ok (.iload_n 2, 1) := by decide +kernel
theorem d_MO_message_42 : decode b_MO_message 42 = .ok (.tableswitch 58 0 3 #[30, 37, 44, 51], 30) := by decide +kernel
theorem d_MO_message_72 : decode b_MO_message 72 = .ok (.aload_n 0, 1) := by decide +kernel
theorem d_MO_message_73 : decode b_MO_message 73 = .ok (.getfield 119, 3) := by decide +kernel
theorem d_MO_message_76 : decode b_MO_message 76 = .ok (.iload_n 3, 1) := by decide +kernel
theorem d_MO_message_77 : decode b_MO_message 77 = .ok (.iaload, 1) := by decide +kernel
theorem d_MO_message_78 : decode b_MO_message 78 = .ok (.ireturn, 1) := by decide +kernel
theorem d_MO_message_79 : decode b_MO_message 79 = .ok (.aload_n 0, 1) := by decide +kernel
theorem d_MO_message_80 : decode b_MO_message 80 = .ok (.getfield 122, 3) := by decide +kernel
theorem d_MO_message_83 : decode b_MO_message 83 = .ok (.iload_n 3, 1) := by decide +kernel
theorem d_MO_message_84 : decode b_MO_message 84 = .ok (.iaload, 1) := by decide +kernel
theorem d_MO_message_85 : decode b_MO_message 85 = .ok (.ireturn, 1) := by decide +kernel
theorem d_MO_message_86 : decode b_MO_message 86 = .ok (.aload_n 0, 1) := by decide +kernel
theorem d_MO_message_87 : decode b_MO_message 87 = .ok (.getfield 125, 3) := by decide +kernel
theorem d_MO_message_90 : decode b_MO_message 90 = .ok (.iload_n 3, 1) := by decide +kernel
theorem d_MO_message_91 : decode b_MO_message 91 = .ok (.iaload, 1) := by decide +kernel
theorem d_MO_message_92 : decode b_MO_message 92 = .ok (.ireturn, 1) := by decide +kernel
theorem d_MO_message_93 : decode b_MO_message 93 = .ok (.aload_n 0, 1) := by decide +kernel
theorem d_MO_message_94 : decode b_MO_message 94 = .ok (.getfield 128, 3) := by decide +kernel
theorem d_MO_message_97 : decode b_MO_message 97 = .ok (.iload_n 3, 1) := by decide +kernel
theorem d_MO_message_98 : decode b_MO_message 98 = .ok (.iaload, 1) := by decide +kernel
theorem d_MO_message_99 : decode b_MO_message 99 = .ok (.ireturn, 1) := by decide +kernel
theorem d_MO_message_100 : decode b_MO_message 100 = .ok (.aload_n 0, 1) := by decide +kernel
theorem d_MO_message_101 : decode b_MO_message 101 = .ok (.getfield 131, 3) := by decide +kernel
theorem d_MO_message_104 : decode b_MO_message 104 = .ok (.iload_n 3, 1) := by decide +kernel
theorem d_MO_message_105 : decode b_MO_message 105 = .ok (.iaload, 1) := by decide +kernel
theorem d_MO_message_106 : decode b_MO_message 106 = .ok (.ireturn, 1) := by decide +kernel
theorem d_MO_count_0 : decode b_MO_count 0 = .ok (.aload_n 0, 1) := by decide +kernel
theorem d_MO_count_1 : decode b_MO_count 1 = .ok (.iconst 0, 1) := by decide +kernel
theorem d_MO_count_2 : decode b_MO_count 2 = .ok (.putfield 181, 3) := by decide +kernel
theorem d_MO_count_5 : decode b_MO_count 5 = .ok (.iload_n 1, 1) := by decide +kernel
theorem d_MO_count_6 : decode b_MO_count 6 = .ok (.bipush 100, 2) := by decide +kernel
theorem d_MO_count_8 : decode b_MO_count 8 = .ok (.if_icmp .lt 35, 3) := by decide +kernel
theorem d_MO_count_11 : decode b_MO_count 11 = .ok (.iload_n 1, 1) := by decide +kernel
theorem d_MO_count_12 : decode b_MO_count 12 = .ok (.sipush 200, 3) := by decide +kernel
theorem d_MO_count_15 : decode b_MO_count 15 = .ok (.if_icmp .ge 28, 3) := by decide +kernel
theorem d_MO_count_18 : decode b_MO_count 18 = .ok (.iload_n 1, 1) := by decide +kernel
theorem d_MO_count_19 : decode b_MO_count 19 = .ok (.bipush 100, 2) := by decide +kernel
theorem d_MO_count_21 : decode b_MO_count 21 = .ok (.isub, 1) := by decide +kernel
theorem d_MO_count_22 : decode b_MO_count 22 = .ok (.aload_n 0, 1) := by decide +kernel
theorem d_MO_count_23 : decode b_MO_count 23 = .ok (.getfield 286, 3) := by decide +kernel
theorem d_MO_count_26 : decode b_MO_count 26 = .ok (.if_icmp .ge 15, 3) := by decide +kernel
theorem d_MO_count_29 : decode b_MO_count 29 = .ok (.aload_n 0, 1) := by decide +kernel
theorem d_MO_count_30 : decode b_MO_count 30 = .ok (.getfield 173, 3) := by decide +kernel
theorem d_MO_count_33 : decode b_MO_count 33 = .ok (.iload_n 1, 1) := by decide +kernel
theorem d_MO_count_34 : decode b_MO_count 34 = .ok (.bipush 100, 2) := by decide +kernel
theorem d_MO_count_36 : decode b_MO_count 36 = .ok (.isub, 1) := by decide +kernel
theorem d_MO_count_37 : decode b_MO_count 37 = .ok (.iaload, 1) := by decide +kernel
theorem d_MO_count_38 : decode b_MO_count 38 = .ok (.goto 4, 3) := by decide +kernel
theorem d_MO_count_41 : decode b_MO_count 41 = .ok (.iconst (-1), 1) := by decide +kernel
theorem d_MO_count_42 : decode b_MO_count 42 = .ok (.ireturn, 1) := by decide +kernel
theorem d_MO_count_43 : decode b_MO_count 43 = .ok (.iload_n 1, 1) := by decide +kernel
theorem d_MO_count_44 : decode b_MO_count 44 = .ok (.sipush 200, 3) := by decide +kernel
theorem d_MO_count_47 : decode b_MO_count 47 = .ok (.if_icmp .lt 37, 3) := by decide +kernel
theorem d_MO_count_50 : decode b_MO_count 50 = .ok (.iload_n 1, 1) := by decide +kernel
theorem d_MO_count_51 : decode b_MO_count 51 = .ok (.sipush 264, 3) := by decide +kernel
theorem d_MO_count_54 : decode b_MO_count 54 = .ok (.if_icmp .ge 30, 3) := by decide +kernel
theorem d_MO_count_57 : decode b_MO_count 57 = .ok (.iload_n 1, 1) := by decide +kernel
theorem d_MO_count_58 : decode b_MO_count 58 = .ok (.sipush 200, 3) := by decide +kernel
theorem d_MO_count_61 : decode b_MO_count 61 = .ok (.isub, 1) := by decide +kernel
theorem d_MO_count_62 : decode b_MO_count 62 = .ok (.aload_n 0, 1) := by decide +kernel
theorem d_MO_count_63 : decode b_MO_count 63 = .ok (.getfield 214, 3) := by decide +kernel
theorem d_MO_count_66 : decode b_MO_count 66 = .ok (.if_icmp .ge 16, 3) := by decide +kernel
theorem d_MO_count_69 : decode b_MO_count 69 = .ok (.aload_n 0, 1) := by decide +kernel
theorem d_MO_count_70 : decode b_MO_count 70 = .ok (.getfield 116, 3) := by decide +kernel
theorem d_MO_count_73 : decode b_MO_count 73 = .ok (.iload_n 1, 1) := by decide +kernel
theorem d_MO_count_74 : decode b_MO_count 74 = .ok (.sipush 200, 3) := by decide +kernel
theorem d_MO_count_77 : decode b_MO_count 77 = .ok (.isub, 1) := by decide +kernel
theorem d_MO_count_78 : decode b_MO_count 78 = .ok (.iaload, 1) := by decide +kernel
theorem d_MO_count_79 : decode b_MO_count 79 = .ok (.goto 4, 3) := by decide +kernel
theorem d_MO_count_82 : decode b_MO_count 82 = .ok (.iconst (-1), 1) := by decide +kernel
theorem d_MO_count_83 : decode b_MO_count 83 = .ok (.ireturn, 1) := by decide +kernel
theorem d_MO_count_84 : decode b_MO_count 84 = .ok (.iload_n 1, 1) := by decide +kernel
theorem d_MO_count_85 : decode b_MO_count 85 = .ok (.sipush 300, 3) := by decide +kernel
theorem d_MO_count_88 : decode b_MO_count 88 = .ok (.if_icmp .lt 21, 3) := by decide +kernel
theorem d_MO_count_91 : decode b_MO_count 91 = .ok (.iload_n 1, 1) := by decide +kernel
theorem d_MO_count_92 : decode b_MO_count 92 = .ok (.sipush 304, 3) := by decide +kernel
theorem d_MO_count_95 : decode b_MO_count 95 = .ok (.if_icmp .ge 14, 3) := by decide +kernel
theorem d_MO_count_98 : decode b_MO_count 98 = .ok (.aload_n 0, 1) := by decide +kernel
theorem d_MO_count_99 : decode b_MO_count 99 = .ok (.getfield 7, 3) := by decide +kernel
theorem d_MO_count_102 : decode b_MO_count 102 = .ok (.iload_n 1, 1) := by decide +kernel
theorem d_MO_count_103 : decode b_MO_count 103 = .ok (.sipush 300, 3) := by decide +kernel
theorem d_MO_count_106 : decode b_MO_count 106 = .ok (.isub, 1) := by decide +kernel
theorem d_MO_count_107 : decode b_MO_count 107 = .ok (.iaload, 1) := by decide +kernel
theorem d_MO_count_108 : decode b_MO_count 108 = .ok (.ireturn, 1) := by decide +kernel
theorem d_MO_count_109 : decode b_MO_count 109 = .ok (.iconst 0, 1) := by decide +kernel
theorem d_MO_count_110 : decode b_MO_count 110 = .ok (.istore_n 2, 1) := by decide +kernel
theorem d_MO_count_111 : decode b_MO_count 111 = .ok (.iconst 0, 1) := by decide +kernel
theorem d_MO_count_112 : decode b_MO_count 112 = .ok (.istore_n 3, 1) := by decide +kernel
theorem d_MO_count_113 : decode b_MO_count 113 = .ok (.iload_n 3, 1) := by decide +kernel
theorem d_MO_count_114 : decode b_MO_count 114 = .ok (.bipush 8, 2) := by decide +kernel
theorem d_MO_count_116 : decode b_MO_count 116 = .ok (.if_icmp .ge 27, 3) := by decide +kernel
theorem d_MO_count_119 : decode b_MO_count 119 = .ok (.iload_n 2, 1) := by decide +kernel
theorem d_MO_count_120 : decode b_MO_count 120 = .ok (.ifCond .ne 11, 3) := by decide +kernel
theorem d_MO_count_123 : decode b_MO_count 123 = .ok (.aload_n 0, 1) := by decide +kernel
theorem d_MO_count_124 : decode b_MO_count 124 = .ok (.iload_n 3, 1) := by decide +kernel
theorem d_MO_count_125 : decode b_MO_count 125 = .ok (.invokevirtual 249, 3) := by decide +kernel
theorem d_MO_count_128 : decode b_MO_count 128 = .ok (.ifCond .eq 7, 3) := by decide +kernel
theorem d_MO_count_131 : decode b_MO_count 131 = .ok (.iconst 1, 1) := by decide +kernel
theorem d_MO_count_132 : decode b_MO_count 132 = .ok (.goto 4, 3) := by decide +kernel
theorem d_MO_count_135 : decode b_MO_count 135 = .ok (.iconst 0, 1) := by decide +kernel
theorem d_MO_count_136 : decode b_MO_count 136 = .ok (.istore_n 2, 1) := by decide +kernel
theorem d_MO_count_137 : decode b_MO_count 137 = .ok (.iinc 3 1, 3) := by decide +kernel
theorem d_MO_count_140 : decode b_MO_count 140 = .ok (.goto (-27), 3) := by decide +kernel
theorem d_MO_count_143 : decode b_MO_count 143 = .ok (.iload_n 1, 1) := by decide +kernel
theorem d_MO_count_144 : decode b_MO_count 144 = .ok (.tableswitch 84 0 6 #[44, 49, 54, 59, 64, 69, 74], 44) := by decide +kernel
theorem d_MO_count_188 : decode b_MO_count 188 = .ok (.aload_n 0, 1) := by decide +kernel
theorem d_MO_count_189 : decode b_MO_count 189 = .ok (.getfield 223, 3) := by decide +kernel
theorem d_MO_count_192 : decode b_MO_count 192 = .ok (.ireturn, 1) := by decide +kernel
theorem d_MO_count_193 : decode b_MO_count 193 = .ok (.aload_n 0, 1) := by decide +kernel
theorem d_MO_count_194 : decode b_MO_count 194 = .ok (.getfield 217, 3) := by decide +kernel
theorem d_MO_count_197 : decode b_MO_count 197 = .ok (.ireturn, 1) := by decide +kernel
theorem d_MO_count_198 : decode b_MO_count 198 = .ok (.aload_n 0, 1) := by decide +kernel
theorem d_MO_count_199 : decode b_MO_count 199 = .ok (.getfield 214, 3) := by decide +kernel
theorem d_MO_count_202 : decode b_MO_count 202 = .ok (.ireturn, 1) := by decide +kernel
theorem d_MO_count_203 : decode b_MO_count 203 = .ok (.aload_n 0, 1) := by decide +kernel
theorem d_MO_count_204 : decode b_MO_count 204 = .ok (.getfield 220, 3) := by decide +kernel
theorem d_MO_count_207 : decode b_MO_count 207 = .ok (.ireturn, 1) := by decide +kernel
theorem d_MO_count_208 : decode b_MO_count 208 = .ok (.aload_n 0, 1) := by decide +kernel
theorem d_MO_count_209 : decode b_MO_count 209 = .ok (.getfield 255, 3) := by decide +kernel
theorem d_MO_count_212 : decode b_MO_count 212 = .ok (.ireturn, 1) := by decide +kernel
theorem d_MO_count_213 : decode b_MO_count 213 = .ok (.aload_n 0, 1) := by decide +kernel
theorem d_MO_count_214 : decode b_MO_count 214 = .ok (.getfield 286, 3) := by decide +kernel
theorem d_MO_count_217 : decode b_MO_count 217 = .ok (.ireturn, 1) := by decide +kernel
theorem d_MO_count_218 : decode b_MO_count 218 = .ok (.iload_n 2, 1) := by decide +kernel
theorem d_MO_count_219 : decode b_MO_count 219 = .ok (.ifCond .eq 7, 3) := by decide +kernel
theorem d_MO_count_222 : decode b_MO_count 222 = .ok (.iconst 1, 1) := by decide +kernel
theorem d_MO_count_223 : decode b_MO_count 223 = .ok (.goto 4, 3) := by decide +kernel
theorem d_MO_count_226 : decode b_MO_count 226 = .ok (.iconst 0, 1) := by decide +kernel
theorem d_MO_count_227 : decode b_MO_count 227 = .ok (.ireturn, 1) := by decide +kernel
theorem d_MO_count_228 : decode b_MO_count 228 = .ok (.iconst (-1), 1) := by decide +kernel
theorem d_MO_count_229 : decode b_MO_count 229 = .ok (.ireturn, 1) := by decide +kernel
