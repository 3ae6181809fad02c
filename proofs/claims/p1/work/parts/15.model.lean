theorem dMod_init_0 : decode uMod_init.2.1 0 = .ok (.aload_n 0, 1) := by decide +kernel
theorem dMod_init_1 : decode uMod_init.2.1 1 = .ok (.invokespecial 1, 3) := by decide +kernel
theorem dMod_init_4 : decode uMod_init.2.1 4 = .ok (.aload_n 0, 1) := by decide +kernel
theorem dMod_init_5 : decode uMod_init.2.1 5 = .ok (.iconst 2, 1) := by decide +kernel
theorem dMod_init_6 : decode uMod_init.2.1 6 = .ok (.newarray .int, 2) := by decide +kernel
theorem dMod_init_8 : decode uMod_init.2.1 8 = .ok (.putfield 7, 3) := by decide +kernel
theorem dMod_init_11 : decode uMod_init.2.1 11 = .ok (.aload_n 0, 1) := by decide +kernel
theorem dMod_init_12 : decode uMod_init.2.1 12 = .ok (.iconst 2, 1) := by decide +kernel
theorem dMod_init_13 : decode uMod_init.2.1 13 = .ok (.newarray .int, 2) := by decide +kernel
theorem dMod_init_15 : decode uMod_init.2.1 15 = .ok (.putfield 13, 3) := by decide +kernel
theorem dMod_init_18 : decode uMod_init.2.1 18 = .ok (.aload_n 0, 1) := by decide +kernel
theorem dMod_init_19 : decode uMod_init.2.1 19 = .ok (.iconst 2, 1) := by decide +kernel
theorem dMod_init_20 : decode uMod_init.2.1 20 = .ok (.newarray .int, 2) := by decide +kernel
theorem dMod_init_22 : decode uMod_init.2.1 22 = .ok (.putfield 16, 3) := by decide +kernel
theorem dMod_init_25 : decode uMod_init.2.1 25 = .ok (.aload_n 0, 1) := by decide +kernel
theorem dMod_init_26 : decode uMod_init.2.1 26 = .ok (.bipush 96, 2) := by decide +kernel
theorem dMod_init_28 : decode uMod_init.2.1 28 = .ok (.newarray .int, 2) := by decide +kernel
theorem dMod_init_30 : decode uMod_init.2.1 30 = .ok (.putfield 19, 3) := by decide +kernel
theorem dMod_init_33 : decode uMod_init.2.1 33 = .ok (.aload_n 0, 1) := by decide +kernel
theorem dMod_init_34 : decode uMod_init.2.1 34 = .ok (.bipush 96, 2) := by decide +kernel
theorem dMod_init_36 : decode uMod_init.2.1 36 = .ok (.newarray .int, 2) := by decide +kernel
theorem dMod_init_38 : decode uMod_init.2.1 38 = .ok (.putfield 22, 3) := by decide +kernel
theorem dMod_init_41 : decode uMod_init.2.1 41 = .ok (.aload_n 0, 1) := by decide +kernel
theorem dMod_init_42 : decode uMod_init.2.1 42 = .ok (.bipush 96, 2) := by decide +kernel
theorem dMod_init_44 : decode uMod_init.2.1 44 = .ok (.newarray .int, 2) := by decide +kernel
theorem dMod_init_46 : decode uMod_init.2.1 46 = .ok (.putfield 25, 3) := by decide +kernel
theorem dMod_init_49 : decode uMod_init.2.1 49 = .ok (.aload_n 0, 1) := by decide +kernel
theorem dMod_init_50 : decode uMod_init.2.1 50 = .ok (.bipush 96, 2) := by decide +kernel
theorem dMod_init_52 : decode uMod_init.2.1 52 = .ok (.newarray .boolean, 2) := by decide +kernel
theorem dMod_init_54 : decode uMod_init.2.1 54 = .ok (.putfield 28, 3) := by decide +kernel
theorem dMod_init_57 : decode uMod_init.2.1 57 = .ok (.aload_n 0, 1) := by decide +kernel
theorem dMod_init_58 : decode uMod_init.2.1 58 = .ok (.bipush 96, 2) := by decide +kernel
theorem dMod_init_60 : decode uMod_init.2.1 60 = .ok (.newarray .int, 2) := by decide +kernel
theorem dMod_init_62 : decode uMod_init.2.1 62 = .ok (.putfield 32, 3) := by decide +kernel
theorem dMod_init_65 : decode uMod_init.2.1 65 = .ok (.aload_n 0, 1) := by decide +kernel
theorem dMod_init_66 : decode uMod_init.2.1 66 = .ok (.bipush 96, 2) := by decide +kernel
theorem dMod_init_68 : decode uMod_init.2.1 68 = .ok (.newarray .long, 2) := by decide +kernel
theorem dMod_init_70 : decode uMod_init.2.1 70 = .ok (.putfield 35, 3) := by decide +kernel
theorem dMod_init_73 : decode uMod_init.2.1 73 = .ok (.aload_n 0, 1) := by decide +kernel
theorem dMod_init_74 : decode uMod_init.2.1 74 = .ok (.sipush 768, 3) := by decide +kernel
theorem dMod_init_77 : decode uMod_init.2.1 77 = .ok (.newarray .int, 2) := by decide +kernel
theorem dMod_init_79 : decode uMod_init.2.1 79 = .ok (.putfield 39, 3) := by decide +kernel
theorem dMod_init_82 : decode uMod_init.2.1 82 = .ok (.aload_n 0, 1) := by decide +kernel
theorem dMod_init_83 : decode uMod_init.2.1 83 = .ok (.sipush 768, 3) := by decide +kernel
theorem dMod_init_86 : decode uMod_init.2.1 86 = .ok (.newarray .int, 2) := by decide +kernel
theorem dMod_init_88 : decode uMod_init.2.1 88 = .ok (.putfield 42, 3) := by decide +kernel
theorem dMod_init_91 : decode uMod_init.2.1 91 = .ok (.aload_n 0, 1) := by decide +kernel
theorem dMod_init_92 : decode uMod_init.2.1 92 = .ok (.sipush 768, 3) := by decide +kernel
theorem dMod_init_95 : decode uMod_init.2.1 95 = .ok (.newarray .int, 2) := by decide +kernel
theorem dMod_init_97 : decode uMod_init.2.1 97 = .ok (.putfield 45, 3) := by decide +kernel
theorem dMod_init_100 : decode uMod_init.2.1 100 = .ok (.aload_n 0, 1) := by decide +kernel
theorem dMod_init_101 : decode uMod_init.2.1 101 = .ok (.sipush 768, 3) := by decide +kernel
theorem dMod_init_104 : decode uMod_init.2.1 104 = .ok (.newarray .int, 2) := by decide +kernel
theorem dMod_init_106 : decode uMod_init.2.1 106 = .ok (.putfield 48, 3) := by decide +kernel
theorem dMod_init_109 : decode uMod_init.2.1 109 = .ok (.aload_n 0, 1) := by decide +kernel
theorem dMod_init_110 : decode uMod_init.2.1 110 = .ok (.bipush 24, 2) := by decide +kernel
theorem dMod_init_112 : decode uMod_init.2.1 112 = .ok (.newarray .boolean, 2) := by decide +kernel
theorem dMod_init_114 : decode uMod_init.2.1 114 = .ok (.putfield 51, 3) := by decide +kernel
theorem dMod_init_117 : decode uMod_init.2.1 117 = .ok (.aload_n 0, 1) := by decide +kernel
theorem dMod_init_118 : decode uMod_init.2.1 118 = .ok (.bipush 24, 2) := by decide +kernel
theorem dMod_init_120 : decode uMod_init.2.1 120 = .ok (.newarray .boolean, 2) := by decide +kernel
theorem dMod_init_122 : decode uMod_init.2.1 122 = .ok (.putfield 54, 3) := by decide +kernel
theorem dMod_init_125 : decode uMod_init.2.1 125 = .ok (.aload_n 0, 1) := by decide +kernel
theorem dMod_init_126 : decode uMod_init.2.1 126 = .ok (.bipush 24, 2) := by decide +kernel
theorem dMod_init_128 : decode uMod_init.2.1 128 = .ok (.newarray .boolean, 2) := by decide +kernel
theorem dMod_init_130 : decode uMod_init.2.1 130 = .ok (.putfield 57, 3) := by decide +kernel
theorem dMod_init_133 : decode uMod_init.2.1 133 = .ok (.aload_n 0, 1) := by decide +kernel
theorem dMod_init_134 : decode uMod_init.2.1 134 = .ok (.bipush 24, 2) := by decide +kernel
theorem dMod_init_136 : decode uMod_init.2.1 136 = .ok (.newarray .boolean, 2) := by decide +kernel
theorem dMod_init_138 : decode uMod_init.2.1 138 = .ok (.putfield 60, 3) := by decide +kernel
theorem dMod_init_141 : decode uMod_init.2.1 141 = .ok (.aload_n 0, 1) := by decide +kernel
theorem dMod_init_142 : decode uMod_init.2.1 142 = .ok (.bipush 24, 2) := by decide +kernel
theorem dMod_init_144 : decode uMod_init.2.1 144 = .ok (.newarray .boolean, 2) := by decide +kernel
theorem dMod_init_146 : decode uMod_init.2.1 146 = .ok (.putfield 63, 3) := by decide +kernel
theorem dMod_init_149 : decode uMod_init.2.1 149 = .ok (.aload_n 0, 1) := by decide +kernel
theorem dMod_init_150 : decode uMod_init.2.1 150 = .ok (.bipush 24, 2) := by decide +kernel
theorem dMod_init_152 : decode uMod_init.2.1 152 = .ok (.newarray .boolean, 2) := by decide +kernel
theorem dMod_init_154 : decode uMod_init.2.1 154 = .ok (.putfield 66, 3) := by decide +kernel
theorem dMod_init_157 : decode uMod_init.2.1 157 = .ok (.aload_n 0, 1) := by decide +kernel
theorem dMod_init_158 : decode uMod_init.2.1 158 = .ok (.bipush 24, 2) := by decide +kernel
theorem dMod_init_160 : decode uMod_init.2.1 160 = .ok (.newarray .boolean, 2) := by decide +kernel
theorem dMod_init_162 : decode uMod_init.2.1 162 = .ok (.putfield 69, 3) := by decide +kernel
theorem dMod_init_165 : decode uMod_init.2.1 165 = .ok (.aload_n 0, 1) := by decide +kernel
theorem dMod_init_166 : decode uMod_init.2.1 166 = .ok (.bipush 24, 2) := by decide +kernel
theorem dMod_init_168 : decode uMod_init.2.1 168 = .ok (.newarray .int, 2) := by decide +kernel
theorem dMod_init_170 : decode uMod_init.2.1 170 = .ok (.putfield 72, 3) := by decide +kernel
theorem dMod_init_173 : decode uMod_init.2.1 173 = .ok (.aload_n 0, 1) := by decide +kernel
theorem dMod_init_174 : decode uMod_init.2.1 174 = .ok (.bipush 24, 2) := by decide +kernel
theorem dMod_init_176 : decode uMod_init.2.1 176 = .ok (.newarray .int, 2) := by decide +kernel
theorem dMod_init_178 : decode uMod_init.2.1 178 = .ok (.putfield 75, 3) := by decide +kernel
theorem dMod_init_181 : decode uMod_init.2.1 181 = .ok (.aload_n 0, 1) := by decide +kernel
theorem dMod_init_182 : decode uMod_init.2.1 182 = .ok (.bipush 24, 2) := by decide +kernel
theorem dMod_init_184 : decode uMod_init.2.1 184 = .ok (.newarray .int, 2) := by decide +kernel
theorem dMod_init_186 : decode uMod_init.2.1 186 = .ok (.putfield 78, 3) := by decide +kernel
theorem dMod_init_189 : decode uMod_init.2.1 189 = .ok (.aload_n 0, 1) := by decide +kernel
theorem dMod_init_190 : decode uMod_init.2.1 190 = .ok (.bipush 24, 2) := by decide +kernel
theorem dMod_init_192 : decode uMod_init.2.1 192 = .ok (.newarray .int, 2) := by decide +kernel
theorem dMod_init_194 : decode uMod_init.2.1 194 = .ok (.putfield 81, 3) := by decide +kernel
theorem dMod_init_197 : decode uMod_init.2.1 197 = .ok (.aload_n 0, 1) := by decide +kernel
theorem dMod_init_198 : decode uMod_init.2.1 198 = .ok (.bipush 24, 2) := by decide +kernel
theorem dMod_init_200 : decode uMod_init.2.1 200 = .ok (.newarray .int, 2) := by decide +kernel
theorem dMod_init_202 : decode uMod_init.2.1 202 = .ok (.putfield 84, 3) := by decide +kernel
theorem dMod_init_205 : decode uMod_init.2.1 205 = .ok (.aload_n 0, 1) := by decide +kernel
theorem dMod_init_206 : decode uMod_init.2.1 206 = .ok (.sipush 144, 3) := by decide +kernel
theorem dMod_init_209 : decode uMod_init.2.1 209 = .ok (.newarray .int, 2) := by decide +kernel
theorem dMod_init_211 : decode uMod_init.2.1 211 = .ok (.putfield 87, 3) := by decide +kernel
theorem dMod_init_214 : decode uMod_init.2.1 214 = .ok (.aload_n 0, 1) := by decide +kernel
theorem dMod_init_215 : decode uMod_init.2.1 215 = .ok (.sipush 144, 3) := by decide +kernel
theorem dMod_init_218 : decode uMod_init.2.1 218 = .ok (.newarray .int, 2) := by decide +kernel
theorem dMod_init_220 : decode uMod_init.2.1 220 = .ok (.putfield 90, 3) := by decide +kernel
theorem dMod_init_223 : decode uMod_init.2.1 223 = .ok (.aload_n 0, 1) := by decide +kernel
theorem dMod_init_224 : decode uMod_init.2.1 224 = .ok (.bipush 24, 2) := by decide +kernel
theorem dMod_init_226 : decode uMod_init.2.1 226 = .ok (.newarray .int, 2) := by decide +kernel
theorem dMod_init_228 : decode uMod_init.2.1 228 = .ok (.putfield 93, 3) := by decide +kernel
theorem dMod_init_231 : decode uMod_init.2.1 231 = .ok (.aload_n 0, 1) := by decide +kernel
theorem dMod_init_232 : decode uMod_init.2.1 232 = .ok (.sipush 768, 3) := by decide +kernel
theorem dMod_init_235 : decode uMod_init.2.1 235 = .ok (.newarray .int, 2) := by decide +kernel
theorem dMod_init_237 : decode uMod_init.2.1 237 = .ok (.putfield 96, 3) := by decide +kernel
theorem dMod_init_240 : decode uMod_init.2.1 240 = .ok (.aload_n 0, 1) := by decide +kernel
theorem dMod_init_241 : decode uMod_init.2.1 241 = .ok (.iconst 2, 1) := by decide +kernel
theorem dMod_init_242 : decode uMod_init.2.1 242 = .ok (.newarray .int, 2) := by decide +kernel
theorem dMod_init_244 : decode uMod_init.2.1 244 = .ok (.putfield 99, 3) := by decide +kernel
theorem dMod_init_247 : decode uMod_init.2.1 247 = .ok (.aload_n 0, 1) := by decide +kernel
theorem dMod_init_248 : decode uMod_init.2.1 248 = .ok (.bipush 80, 2) := by decide +kernel
theorem dMod_init_250 : decode uMod_init.2.1 250 = .ok (.newarray .int, 2) := by decide +kernel
theorem dMod_init_252 : decode uMod_init.2.1 252 = .ok (.putfield 102, 3) := by decide +kernel
theorem dMod_init_255 : decode uMod_init.2.1 255 = .ok (.aload_n 0, 1) := by decide +kernel
theorem dMod_init_256 : decode uMod_init.2.1 256 = .ok (.bipush 80, 2) := by decide +kernel
theorem dMod_init_258 : decode uMod_init.2.1 258 = .ok (.newarray .int, 2) := by decide +kernel
theorem dMod_init_260 : decode uMod_init.2.1 260 = .ok (.putfield 105, 3) := by decide +kernel
theorem dMod_init_263 : decode uMod_init.2.1 263 = .ok (.aload_n 0, 1) := by decide +kernel
theorem dMod_init_264 : decode uMod_init.2.1 264 = .ok (.iconst 2, 1) := by decide +kernel
theorem dMod_init_265 : decode uMod_init.2.1 265 = .ok (.newarray .int, 2) := by decide +kernel
theorem dMod_init_267 : decode uMod_init.2.1 267 = .ok (.putfield 108, 3) := by decide +kernel
theorem dMod_init_270 : decode uMod_init.2.1 270 = .ok (.aload_n 0, 1) := by decide +kernel
theorem dMod_init_271 : decode uMod_init.2.1 271 = .ok (.iconst 2, 1) := by decide +kernel
theorem dMod_init_272 : decode uMod_init.2.1 272 = .ok (.newarray .int, 2) := by decide +kernel
theorem dMod_init_274 : decode uMod_init.2.1 274 = .ok (.putfield 111, 3) := by decide +kernel
theorem dMod_init_277 : decode uMod_init.2.1 277 = .ok (.aload_n 0, 1) := by decide +kernel
theorem dMod_init_278 : decode uMod_init.2.1 278 = .ok (.iconst 2, 1) := by decide +kernel
theorem dMod_init_279 : decode uMod_init.2.1 279 = .ok (.newarray .int, 2) := by decide +kernel
theorem dMod_init_281 : decode uMod_init.2.1 281 = .ok (.putfield 114, 3) := by decide +kernel
theorem dMod_init_284 : decode uMod_init.2.1 284 = .ok (.aload_n 0, 1) := by decide +kernel
theorem dMod_init_285 : decode uMod_init.2.1 285 = .ok (.bipush 6, 2) := by decide +kernel
theorem dMod_init_287 : decode uMod_init.2.1 287 = .ok (.newarray .int, 2) := by decide +kernel
theorem dMod_init_289 : decode uMod_init.2.1 289 = .ok (.putfield 117, 3) := by decide +kernel
theorem dMod_init_292 : decode uMod_init.2.1 292 = .ok (.aload_n 0, 1) := by decide +kernel
theorem dMod_init_293 : decode uMod_init.2.1 293 = .ok (.bipush 6, 2) := by decide +kernel
theorem dMod_init_295 : decode uMod_init.2.1 295 = .ok (.newarray .int, 2) := by decide +kernel
theorem dMod_init_297 : decode uMod_init.2.1 297 = .ok (.putfield 120, 3) := by decide +kernel
theorem dMod_init_300 : decode uMod_init.2.1 300 = .ok (.aload_n 0, 1) := by decide +kernel
theorem dMod_init_301 : decode uMod_init.2.1 301 = .ok (.iconst 2, 1) := by decide +kernel
theorem dMod_init_302 : decode uMod_init.2.1 302 = .ok (.newarray .boolean, 2) := by decide +kernel
theorem dMod_init_304 : decode uMod_init.2.1 304 = .ok (.putfield 123, 3) := by decide +kernel
theorem dMod_init_307 : decode uMod_init.2.1 307 = .ok (.aload_n 0, 1) := by decide +kernel
theorem dMod_init_308 : decode uMod_init.2.1 308 = .ok (.iconst 2, 1) := by decide +kernel
theorem dMod_init_309 : decode uMod_init.2.1 309 = .ok (.newarray .int, 2) := by decide +kernel
theorem dMod_init_311 : decode uMod_init.2.1 311 = .ok (.putfield 126, 3) := by decide +kernel
theorem dMod_init_314 : decode uMod_init.2.1 314 = .ok (.aload_n 0, 1) := by decide +kernel
theorem dMod_init_315 : decode uMod_init.2.1 315 = .ok (.iconst 2, 1) := by decide +kernel
theorem dMod_init_316 : decode uMod_init.2.1 316 = .ok (.newarray .boolean, 2) := by decide +kernel
theorem dMod_init_318 : decode uMod_init.2.1 318 = .ok (.putfield 129, 3) := by decide +kernel
theorem dMod_init_321 : decode uMod_init.2.1 321 = .ok (.aload_n 0, 1) := by decide +kernel
theorem dMod_init_322 : decode uMod_init.2.1 322 = .ok (.iconst 2, 1) := by decide +kernel
theorem dMod_init_323 : decode uMod_init.2.1 323 = .ok (.newarray .int, 2) := by decide +kernel
theorem dMod_init_325 : decode uMod_init.2.1 325 = .ok (.putfield 132, 3) := by decide +kernel
theorem dMod_init_328 : decode uMod_init.2.1 328 = .ok (.aload_n 0, 1) := by decide +kernel
theorem dMod_init_329 : decode uMod_init.2.1 329 = .ok (.bipush 16, 2) := by decide +kernel
theorem dMod_init_331 : decode uMod_init.2.1 331 = .ok (.newarray .int, 2) := by decide +kernel
theorem dMod_init_333 : decode uMod_init.2.1 333 = .ok (.putfield 135, 3) := by decide +kernel
theorem dMod_init_336 : decode uMod_init.2.1 336 = .ok (.aload_n 0, 1) := by decide +kernel
theorem dMod_init_337 : decode uMod_init.2.1 337 = .ok (.bipush 16, 2) := by decide +kernel
theorem dMod_init_339 : decode uMod_init.2.1 339 = .ok (.newarray .int, 2) := by decide +kernel
theorem dMod_init_341 : decode uMod_init.2.1 341 = .ok (.putfield 138, 3) := by decide +kernel
theorem dMod_init_344 : decode uMod_init.2.1 344 = .ok (.aload_n 0, 1) := by decide +kernel
theorem dMod_init_345 : decode uMod_init.2.1 345 = .ok (.iconst 4, 1) := by decide +kernel
theorem dMod_init_346 : decode uMod_init.2.1 346 = .ok (.newarray .int, 2) := by decide +kernel
theorem dMod_init_348 : decode uMod_init.2.1 348 = .ok (.putfield 141, 3) := by decide +kernel
theorem dMod_init_351 : decode uMod_init.2.1 351 = .ok (.aload_n 0, 1) := by decide +kernel
theorem dMod_init_352 : decode uMod_init.2.1 352 = .ok (.iconst 4, 1) := by decide +kernel
theorem dMod_init_353 : decode uMod_init.2.1 353 = .ok (.newarray .int, 2) := by decide +kernel
theorem dMod_init_355 : decode uMod_init.2.1 355 = .ok (.putfield 144, 3) := by decide +kernel
theorem dMod_init_358 : decode uMod_init.2.1 358 = .ok (.aload_n 0, 1) := by decide +kernel
theorem dMod_init_359 : decode uMod_init.2.1 359 = .ok (.bipush 24, 2) := by decide +kernel
theorem dMod_init_361 : decode uMod_init.2.1 361 = .ok (.newarray .int, 2) := by decide +kernel
theorem dMod_init_363 : decode uMod_init.2.1 363 = .ok (.putfield 147, 3) := by decide +kernel
theorem dMod_init_366 : decode uMod_init.2.1 366 = .ok (.aload_n 0, 1) := by decide +kernel
theorem dMod_init_367 : decode uMod_init.2.1 367 = .ok (.bipush 24, 2) := by decide +kernel
theorem dMod_init_369 : decode uMod_init.2.1 369 = .ok (.newarray .int, 2) := by decide +kernel
theorem dMod_init_371 : decode uMod_init.2.1 371 = .ok (.putfield 150, 3) := by decide +kernel
theorem dMod_init_374 : decode uMod_init.2.1 374 = .ok (.aload_n 0, 1) := by decide +kernel
theorem dMod_init_375 : decode uMod_init.2.1 375 = .ok (.iconst 2, 1) := by decide +kernel
theorem dMod_init_376 : decode uMod_init.2.1 376 = .ok (.newarray .int, 2) := by decide +kernel
theorem dMod_init_378 : decode uMod_init.2.1 378 = .ok (.putfield 153, 3) := by decide +kernel
theorem dMod_init_381 : decode uMod_init.2.1 381 = .ok (.aload_n 0, 1) := by decide +kernel
theorem dMod_init_382 : decode uMod_init.2.1 382 = .ok (.bipush 12, 2) := by decide +kernel
theorem dMod_init_384 : decode uMod_init.2.1 384 = .ok (.newarray .int, 2) := by decide +kernel
theorem dMod_init_386 : decode uMod_init.2.1 386 = .ok (.putfield 156, 3) := by decide +kernel
theorem dMod_init_389 : decode uMod_init.2.1 389 = .ok (.aload_n 0, 1) := by decide +kernel
theorem dMod_init_390 : decode uMod_init.2.1 390 = .ok (.bipush 12, 2) := by decide +kernel
theorem dMod_init_392 : decode uMod_init.2.1 392 = .ok (.newarray .int, 2) := by decide +kernel
theorem dMod_init_394 : decode uMod_init.2.1 394 = .ok (.putfield 159, 3) := by decide +kernel
theorem dMod_init_397 : decode uMod_init.2.1 397 = .ok (.aload_n 0, 1) := by decide +kernel
theorem dMod_init_398 : decode uMod_init.2.1 398 = .ok (.bipush 12, 2) := by decide +kernel
theorem dMod_init_400 : decode uMod_init.2.1 400 = .ok (.newarray .boolean, 2) := by decide +kernel
theorem dMod_init_402 : decode uMod_init.2.1 402 = .ok (.putfield 162, 3) := by decide +kernel
theorem dMod_init_405 : decode uMod_init.2.1 405 = .ok (.aload_n 0, 1) := by decide +kernel
theorem dMod_init_406 : decode uMod_init.2.1 406 = .ok (.bipush 8, 2) := by decide +kernel
theorem dMod_init_408 : decode uMod_init.2.1 408 = .ok (.newarray .int, 2) := by decide +kernel
theorem dMod_init_410 : decode uMod_init.2.1 410 = .ok (.putfield 165, 3) := by decide +kernel
theorem dMod_init_413 : decode uMod_init.2.1 413 = .ok (.aload_n 0, 1) := by decide +kernel
theorem dMod_init_414 : decode uMod_init.2.1 414 = .ok (.bipush 8, 2) := by decide +kernel
theorem dMod_init_416 : decode uMod_init.2.1 416 = .ok (.newarray .int, 2) := by decide +kernel
theorem dMod_init_418 : decode uMod_init.2.1 418 = .ok (.putfield 168, 3) := by decide +kernel
theorem dMod_init_421 : decode uMod_init.2.1 421 = .ok (.iconst 0, 1) := by decide +kernel
theorem dMod_init_422 : decode uMod_init.2.1 422 = .ok (.istore_n 1, 1) := by decide +kernel
theorem dMod_init_423 : decode uMod_init.2.1 423 = .ok (.iload_n 1, 1) := by decide +kernel
theorem dMod_init_424 : decode uMod_init.2.1 424 = .ok (.iconst 2, 1) := by decide +kernel
theorem dMod_init_425 : decode uMod_init.2.1 425 = .ok (.if_icmp .ge 106, 3) := by decide +kernel
theorem dMod_init_428 : decode uMod_init.2.1 428 = .ok (.aload_n 0, 1) := by decide +kernel
theorem dMod_init_429 : decode uMod_init.2.1 429 = .ok (.getfield 117, 3) := by decide +kernel
theorem dMod_init_432 : decode uMod_init.2.1 432 = .ok (.iconst 3, 1) := by decide +kernel
theorem dMod_init_433 : decode uMod_init.2.1 433 = .ok (.iload_n 1, 1) := by decide +kernel
theorem dMod_init_434 : decode uMod_init.2.1 434 = .ok (.imul, 1) := by decide +kernel
theorem dMod_init_435 : decode uMod_init.2.1 435 = .ok (.bipush 100, 2) := by decide +kernel
theorem dMod_init_437 : decode uMod_init.2.1 437 = .ok (.iastore, 1) := by decide +kernel
theorem dMod_init_438 : decode uMod_init.2.1 438 = .ok (.aload_n 0, 1) := by decide +kernel
theorem dMod_init_439 : decode uMod_init.2.1 439 = .ok (.getfield 117, 3) := by decide +kernel
theorem dMod_init_442 : decode uMod_init.2.1 442 = .ok (.iconst 3, 1) := by decide +kernel
theorem dMod_init_443 : decode uMod_init.2.1 443 = .ok (.iload_n 1, 1) := by decide +kernel
theorem dMod_init_444 : decode uMod_init.2.1 444 = .ok (.imul, 1) := by decide +kernel
theorem dMod_init_445 : decode uMod_init.2.1 445 = .ok (.iconst 1, 1) := by decide +kernel
theorem dMod_init_446 : decode uMod_init.2.1 446 = .ok (.iadd, 1) := by decide +kernel
theorem dMod_init_447 : decode uMod_init.2.1 447 = .ok (.bipush 12, 2) := by decide +kernel
theorem dMod_init_449 : decode uMod_init.2.1 449 = .ok (.iastore, 1) := by decide +kernel
theorem dMod_init_450 : decode uMod_init.2.1 450 = .ok (.aload_n 0, 1) := by decide +kernel
theorem dMod_init_451 : decode uMod_init.2.1 451 = .ok (.getfield 117, 3) := by decide +kernel
theorem dMod_init_454 : decode uMod_init.2.1 454 = .ok (.iconst 3, 1) := by decide +kernel
theorem dMod_init_455 : decode uMod_init.2.1 455 = .ok (.iload_n 1, 1) := by decide +kernel
theorem dMod_init_456 : decode uMod_init.2.1 456 = .ok (.imul, 1) := by decide +kernel
theorem dMod_init_457 : decode uMod_init.2.1 457 = .ok (.iconst 2, 1) := by decide +kernel
theorem dMod_init_458 : decode uMod_init.2.1 458 = .ok (.iadd, 1) := by decide +kernel
theorem dMod_init_459 : decode uMod_init.2.1 459 = .ok (.bipush 16, 2) := by decide +kernel
theorem dMod_init_461 : decode uMod_init.2.1 461 = .ok (.iastore, 1) := by decide +kernel
theorem dMod_init_462 : decode uMod_init.2.1 462 = .ok (.aload_n 0, 1) := by decide +kernel
theorem dMod_init_463 : decode uMod_init.2.1 463 = .ok (.getfield 120, 3) := by decide +kernel
theorem dMod_init_466 : decode uMod_init.2.1 466 = .ok (.iconst 3, 1) := by decide +kernel
theorem dMod_init_467 : decode uMod_init.2.1 467 = .ok (.iload_n 1, 1) := by decide +kernel
theorem dMod_init_468 : decode uMod_init.2.1 468 = .ok (.imul, 1) := by decide +kernel
theorem dMod_init_469 : decode uMod_init.2.1 469 = .ok (.bipush 100, 2) := by decide +kernel
theorem dMod_init_471 : decode uMod_init.2.1 471 = .ok (.iastore, 1) := by decide +kernel
theorem dMod_init_472 : decode uMod_init.2.1 472 = .ok (.aload_n 0, 1) := by decide +kernel
theorem dMod_init_473 : decode uMod_init.2.1 473 = .ok (.getfield 120, 3) := by decide +kernel
theorem dMod_init_476 : decode uMod_init.2.1 476 = .ok (.iconst 3, 1) := by decide +kernel
theorem dMod_init_477 : decode uMod_init.2.1 477 = .ok (.iload_n 1, 1) := by decide +kernel
theorem dMod_init_478 : decode uMod_init.2.1 478 = .ok (.imul, 1) := by decide +kernel
theorem dMod_init_479 : decode uMod_init.2.1 479 = .ok (.iconst 1, 1) := by decide +kernel
theorem dMod_init_480 : decode uMod_init.2.1 480 = .ok (.iadd, 1) := by decide +kernel
theorem dMod_init_481 : decode uMod_init.2.1 481 = .ok (.bipush 12, 2) := by decide +kernel
theorem dMod_init_483 : decode uMod_init.2.1 483 = .ok (.iastore, 1) := by decide +kernel
theorem dMod_init_484 : decode uMod_init.2.1 484 = .ok (.aload_n 0, 1) := by decide +kernel
theorem dMod_init_485 : decode uMod_init.2.1 485 = .ok (.getfield 120, 3) := by decide +kernel
theorem dMod_init_488 : decode uMod_init.2.1 488 = .ok (.iconst 3, 1) := by decide +kernel
theorem dMod_init_489 : decode uMod_init.2.1 489 = .ok (.iload_n 1, 1) := by decide +kernel
theorem dMod_init_490 : decode uMod_init.2.1 490 = .ok (.imul, 1) := by decide +kernel
theorem dMod_init_491 : decode uMod_init.2.1 491 = .ok (.iconst 2, 1) := by decide +kernel
theorem dMod_init_492 : decode uMod_init.2.1 492 = .ok (.iadd, 1) := by decide +kernel
theorem dMod_init_493 : decode uMod_init.2.1 493 = .ok (.bipush 16, 2) := by decide +kernel
theorem dMod_init_495 : decode uMod_init.2.1 495 = .ok (.iastore, 1) := by decide +kernel
theorem dMod_init_496 : decode uMod_init.2.1 496 = .ok (.aload_n 0, 1) := by decide +kernel
theorem dMod_init_497 : decode uMod_init.2.1 497 = .ok (.getfield 114, 3) := by decide +kernel
theorem dMod_init_500 : decode uMod_init.2.1 500 = .ok (.iload_n 1, 1) := by decide +kernel
theorem dMod_init_501 : decode uMod_init.2.1 501 = .ok (.iconst (-1), 1) := by decide +kernel
theorem dMod_init_502 : decode uMod_init.2.1 502 = .ok (.iastore, 1) := by decide +kernel
theorem dMod_init_503 : decode uMod_init.2.1 503 = .ok (.aload_n 0, 1) := by decide +kernel
theorem dMod_init_504 : decode uMod_init.2.1 504 = .ok (.getfield 141, 3) := by decide +kernel
theorem dMod_init_507 : decode uMod_init.2.1 507 = .ok (.iconst 2, 1) := by decide +kernel
theorem dMod_init_508 : decode uMod_init.2.1 508 = .ok (.iload_n 1, 1) := by decide +kernel
theorem dMod_init_509 : decode uMod_init.2.1 509 = .ok (.imul, 1) := by decide +kernel
theorem dMod_init_510 : decode uMod_init.2.1 510 = .ok (.bipush 100, 2) := by decide +kernel
theorem dMod_init_512 : decode uMod_init.2.1 512 = .ok (.iastore, 1) := by decide +kernel
theorem dMod_init_513 : decode uMod_init.2.1 513 = .ok (.aload_n 0, 1) := by decide +kernel
theorem dMod_init_514 : decode uMod_init.2.1 514 = .ok (.getfield 141, 3) := by decide +kernel
theorem dMod_init_517 : decode uMod_init.2.1 517 = .ok (.iconst 2, 1) := by decide +kernel
theorem dMod_init_518 : decode uMod_init.2.1 518 = .ok (.iload_n 1, 1) := by decide +kernel
theorem dMod_init_519 : decode uMod_init.2.1 519 = .ok (.imul, 1) := by decide +kernel
theorem dMod_init_520 : decode uMod_init.2.1 520 = .ok (.iconst 1, 1) := by decide +kernel
theorem dMod_init_521 : decode uMod_init.2.1 521 = .ok (.iadd, 1) := by decide +kernel
theorem dMod_init_522 : decode uMod_init.2.1 522 = .ok (.bipush 100, 2) := by decide +kernel
theorem dMod_init_524 : decode uMod_init.2.1 524 = .ok (.iastore, 1) := by decide +kernel
theorem dMod_init_525 : decode uMod_init.2.1 525 = .ok (.iinc 1 1, 3) := by decide +kernel
theorem dMod_init_528 : decode uMod_init.2.1 528 = .ok (.goto (-105), 3) := by decide +kernel
theorem dMod_init_531 : decode uMod_init.2.1 531 = .ok (.return_, 1) := by decide +kernel
theorem cfw_Mod : ∀ k, k < 56 → u_lay "InterleavedLinkModel" T_Mod k ∈ gW
  | 0, _ => gW_in 917 (by decide +kernel) rfl
  | 1, _ => gW_in 919 (by decide +kernel) rfl
  | 2, _ => gW_in 921 (by decide +kernel) rfl
  | 3, _ => gW_in 923 (by decide +kernel) rfl
  | 4, _ => gW_in 925 (by decide +kernel) rfl
  | 5, _ => gW_in 927 (by decide +kernel) rfl
  | 6, _ => gW_in 929 (by decide +kernel) rfl
  | 7, _ => gW_in 931 (by decide +kernel) rfl
  | 8, _ => gW_in 933 (by decide +kernel) rfl
  | 9, _ => gW_in 935 (by decide +kernel) rfl
  | 10, _ => gW_in 937 (by decide +kernel) rfl
  | 11, _ => gW_in 939 (by decide +kernel) rfl
  | 12, _ => gW_in 941 (by decide +kernel) rfl
  | 13, _ => gW_in 943 (by decide +kernel) rfl
  | 14, _ => gW_in 945 (by decide +kernel) rfl
  | 15, _ => gW_in 947 (by decide +kernel) rfl
  | 16, _ => gW_in 949 (by decide +kernel) rfl
  | 17, _ => gW_in 951 (by decide +kernel) rfl
  | 18, _ => gW_in 953 (by decide +kernel) rfl
  | 19, _ => gW_in 955 (by decide +kernel) rfl
  | 20, _ => gW_in 957 (by decide +kernel) rfl
  | 21, _ => gW_in 959 (by decide +kernel) rfl
  | 22, _ => gW_in 961 (by decide +kernel) rfl
  | 23, _ => gW_in 963 (by decide +kernel) rfl
  | 24, _ => gW_in 965 (by decide +kernel) rfl
  | 25, _ => gW_in 967 (by decide +kernel) rfl
  | 26, _ => gW_in 969 (by decide +kernel) rfl
  | 27, _ => gW_in 971 (by decide +kernel) rfl
  | 28, _ => gW_in 973 (by decide +kernel) rfl
  | 29, _ => gW_in 975 (by decide +kernel) rfl
  | 30, _ => gW_in 977 (by decide +kernel) rfl
  | 31, _ => gW_in 979 (by decide +kernel) rfl
  | 32, _ => gW_in 981 (by decide +kernel) rfl
  | 33, _ => gW_in 983 (by decide +kernel) rfl
  | 34, _ => gW_in 985 (by decide +kernel) rfl
  | 35, _ => gW_in 987 (by decide +kernel) rfl
  | 36, _ => gW_in 989 (by decide +kernel) rfl
  | 37, _ => gW_in 991 (by decide +kernel) rfl
  | 38, _ => gW_in 993 (by decide +kernel) rfl
  | 39, _ => gW_in 995 (by decide +kernel) rfl
  | 40, _ => gW_in 997 (by decide +kernel) rfl
  | 41, _ => gW_in 999 (by decide +kernel) rfl
  | 42, _ => gW_in 1001 (by decide +kernel) rfl
  | 43, _ => gW_in 1003 (by decide +kernel) rfl
  | 44, _ => gW_in 1005 (by decide +kernel) rfl
  | 45, _ => gW_in 1007 (by decide +kernel) rfl
  | 46, _ => gW_in 1009 (by decide +kernel) rfl
  | 47, _ => gW_in 1011 (by decide +kernel) rfl
  | 48, _ => gW_in 1013 (by decide +kernel) rfl
  | 49, _ => gW_in 1015 (by decide +kernel) rfl
  | 50, _ => gW_in 1017 (by decide +kernel) rfl
  | 51, _ => gW_in 1019 (by decide +kernel) rfl
  | 52, _ => gW_in 1021 (by decide +kernel) rfl
  | 53, _ => gW_in 1023 (by decide +kernel) rfl
  | 54, _ => gW_in 1025 (by decide +kernel) rfl
  | 55, _ => gW_in 1027 (by decide +kernel) rfl
  | (_ + 56), h => absurd h (by omega)
theorem cf_Mod : cF 10 "InterleavedLinkModel" T_Mod 56 := ⟨by decide, rfl, fun w hw => by
  obtain ⟨k, hk, rfl⟩ := List.mem_map.mp hw
  exact cfw_Mod k (List.mem_range.mp hk), by decide +kernel, ty_Mod, by decide +kernel⟩
theorem fs_Mod_117 : fS "InterleavedLinkModel" 117 10 36 := ⟨"InterleavedLinkModel", T_Mod, 56, cf_Mod, by decide, Or.inl (gW_in 897 (by decide +kernel) rfl)⟩
theorem fs_Mod_120 : fS "InterleavedLinkModel" 120 10 37 := ⟨"InterleavedLinkModel", T_Mod, 56, cf_Mod, by decide, Or.inl (gW_in 898 (by decide +kernel) rfl)⟩
theorem fs_Mod_114 : fS "InterleavedLinkModel" 114 10 34 := ⟨"InterleavedLinkModel", T_Mod, 56, cf_Mod, by decide, Or.inl (gW_in 895 (by decide +kernel) rfl)⟩
theorem fs_Mod_141 : fS "InterleavedLinkModel" 141 10 44 := ⟨"InterleavedLinkModel", T_Mod, 56, cf_Mod, by decide, Or.inl (gW_in 905 (by decide +kernel) rfl)⟩
theorem oi_Mod_1 : Cond.methodLink "InterleavedLinkModel" 1 Lib.objectInit ∈ gW := gW_in 860 (by decide +kernel) rfl
theorem ps_Mod_7 : pS "InterleavedLinkModel" "<init>" 7 10 0 (.array .int) := ⟨"InterleavedLinkModel", T_Mod, 56, cf_Mod, by decide, by decide +kernel, Or.inr ⟨rfl, rfl, rfl, (gW_in 861 (by decide +kernel) rfl)⟩⟩
theorem ps_Mod_13 : pS "InterleavedLinkModel" "<init>" 13 10 1 (.array .int) := ⟨"InterleavedLinkModel", T_Mod, 56, cf_Mod, by decide, by decide +kernel, Or.inr ⟨rfl, rfl, rfl, (gW_in 862 (by decide +kernel) rfl)⟩⟩
theorem ps_Mod_16 : pS "InterleavedLinkModel" "<init>" 16 10 2 (.array .int) := ⟨"InterleavedLinkModel", T_Mod, 56, cf_Mod, by decide, by decide +kernel, Or.inr ⟨rfl, rfl, rfl, (gW_in 863 (by decide +kernel) rfl)⟩⟩
theorem ps_Mod_19 : pS "InterleavedLinkModel" "<init>" 19 10 3 (.array .int) := ⟨"InterleavedLinkModel", T_Mod, 56, cf_Mod, by decide, by decide +kernel, Or.inr ⟨rfl, rfl, rfl, (gW_in 864 (by decide +kernel) rfl)⟩⟩
theorem ps_Mod_22 : pS "InterleavedLinkModel" "<init>" 22 10 4 (.array .int) := ⟨"InterleavedLinkModel", T_Mod, 56, cf_Mod, by decide, by decide +kernel, Or.inr ⟨rfl, rfl, rfl, (gW_in 865 (by decide +kernel) rfl)⟩⟩
theorem ps_Mod_25 : pS "InterleavedLinkModel" "<init>" 25 10 5 (.array .int) := ⟨"InterleavedLinkModel", T_Mod, 56, cf_Mod, by decide, by decide +kernel, Or.inr ⟨rfl, rfl, rfl, (gW_in 866 (by decide +kernel) rfl)⟩⟩
theorem ps_Mod_28 : pS "InterleavedLinkModel" "<init>" 28 10 6 (.array .boolean) := ⟨"InterleavedLinkModel", T_Mod, 56, cf_Mod, by decide, by decide +kernel, Or.inr ⟨rfl, rfl, rfl, (gW_in 867 (by decide +kernel) rfl)⟩⟩
theorem ps_Mod_32 : pS "InterleavedLinkModel" "<init>" 32 10 7 (.array .int) := ⟨"InterleavedLinkModel", T_Mod, 56, cf_Mod, by decide, by decide +kernel, Or.inr ⟨rfl, rfl, rfl, (gW_in 868 (by decide +kernel) rfl)⟩⟩
theorem aw_long : Cond.arrayClass .long ∈ gW := gW_in 1030 (by decide +kernel) rfl
theorem ps_Mod_35 : pS "InterleavedLinkModel" "<init>" 35 10 8 (.array .long) := ⟨"InterleavedLinkModel", T_Mod, 56, cf_Mod, by decide, by decide +kernel, Or.inr ⟨rfl, rfl, rfl, (gW_in 869 (by decide +kernel) rfl)⟩⟩
theorem ps_Mod_39 : pS "InterleavedLinkModel" "<init>" 39 10 9 (.array .int) := ⟨"InterleavedLinkModel", T_Mod, 56, cf_Mod, by decide, by decide +kernel, Or.inr ⟨rfl, rfl, rfl, (gW_in 870 (by decide +kernel) rfl)⟩⟩
theorem ps_Mod_42 : pS "InterleavedLinkModel" "<init>" 42 10 10 (.array .int) := ⟨"InterleavedLinkModel", T_Mod, 56, cf_Mod, by decide, by decide +kernel, Or.inr ⟨rfl, rfl, rfl, (gW_in 871 (by decide +kernel) rfl)⟩⟩
theorem ps_Mod_45 : pS "InterleavedLinkModel" "<init>" 45 10 11 (.array .int) := ⟨"InterleavedLinkModel", T_Mod, 56, cf_Mod, by decide, by decide +kernel, Or.inr ⟨rfl, rfl, rfl, (gW_in 872 (by decide +kernel) rfl)⟩⟩
theorem ps_Mod_48 : pS "InterleavedLinkModel" "<init>" 48 10 12 (.array .int) := ⟨"InterleavedLinkModel", T_Mod, 56, cf_Mod, by decide, by decide +kernel, Or.inr ⟨rfl, rfl, rfl, (gW_in 873 (by decide +kernel) rfl)⟩⟩
theorem ps_Mod_51 : pS "InterleavedLinkModel" "<init>" 51 10 13 (.array .boolean) := ⟨"InterleavedLinkModel", T_Mod, 56, cf_Mod, by decide, by decide +kernel, Or.inr ⟨rfl, rfl, rfl, (gW_in 874 (by decide +kernel) rfl)⟩⟩
theorem ps_Mod_54 : pS "InterleavedLinkModel" "<init>" 54 10 14 (.array .boolean) := ⟨"InterleavedLinkModel", T_Mod, 56, cf_Mod, by decide, by decide +kernel, Or.inr ⟨rfl, rfl, rfl, (gW_in 875 (by decide +kernel) rfl)⟩⟩
theorem ps_Mod_57 : pS "InterleavedLinkModel" "<init>" 57 10 15 (.array .boolean) := ⟨"InterleavedLinkModel", T_Mod, 56, cf_Mod, by decide, by decide +kernel, Or.inr ⟨rfl, rfl, rfl, (gW_in 876 (by decide +kernel) rfl)⟩⟩
theorem ps_Mod_60 : pS "InterleavedLinkModel" "<init>" 60 10 16 (.array .boolean) := ⟨"InterleavedLinkModel", T_Mod, 56, cf_Mod, by decide, by decide +kernel, Or.inr ⟨rfl, rfl, rfl, (gW_in 877 (by decide +kernel) rfl)⟩⟩
theorem ps_Mod_63 : pS "InterleavedLinkModel" "<init>" 63 10 17 (.array .boolean) := ⟨"InterleavedLinkModel", T_Mod, 56, cf_Mod, by decide, by decide +kernel, Or.inr ⟨rfl, rfl, rfl, (gW_in 878 (by decide +kernel) rfl)⟩⟩
theorem ps_Mod_66 : pS "InterleavedLinkModel" "<init>" 66 10 18 (.array .boolean) := ⟨"InterleavedLinkModel", T_Mod, 56, cf_Mod, by decide, by decide +kernel, Or.inr ⟨rfl, rfl, rfl, (gW_in 879 (by decide +kernel) rfl)⟩⟩
theorem ps_Mod_69 : pS "InterleavedLinkModel" "<init>" 69 10 19 (.array .boolean) := ⟨"InterleavedLinkModel", T_Mod, 56, cf_Mod, by decide, by decide +kernel, Or.inr ⟨rfl, rfl, rfl, (gW_in 880 (by decide +kernel) rfl)⟩⟩
theorem ps_Mod_72 : pS "InterleavedLinkModel" "<init>" 72 10 20 (.array .int) := ⟨"InterleavedLinkModel", T_Mod, 56, cf_Mod, by decide, by decide +kernel, Or.inr ⟨rfl, rfl, rfl, (gW_in 881 (by decide +kernel) rfl)⟩⟩
theorem ps_Mod_75 : pS "InterleavedLinkModel" "<init>" 75 10 21 (.array .int) := ⟨"InterleavedLinkModel", T_Mod, 56, cf_Mod, by decide, by decide +kernel, Or.inr ⟨rfl, rfl, rfl, (gW_in 882 (by decide +kernel) rfl)⟩⟩
theorem ps_Mod_78 : pS "InterleavedLinkModel" "<init>" 78 10 22 (.array .int) := ⟨"InterleavedLinkModel", T_Mod, 56, cf_Mod, by decide, by decide +kernel, Or.inr ⟨rfl, rfl, rfl, (gW_in 883 (by decide +kernel) rfl)⟩⟩
theorem ps_Mod_81 : pS "InterleavedLinkModel" "<init>" 81 10 23 (.array .int) := ⟨"InterleavedLinkModel", T_Mod, 56, cf_Mod, by decide, by decide +kernel, Or.inr ⟨rfl, rfl, rfl, (gW_in 884 (by decide +kernel) rfl)⟩⟩
theorem ps_Mod_84 : pS "InterleavedLinkModel" "<init>" 84 10 24 (.array .int) := ⟨"InterleavedLinkModel", T_Mod, 56, cf_Mod, by decide, by decide +kernel, Or.inr ⟨rfl, rfl, rfl, (gW_in 885 (by decide +kernel) rfl)⟩⟩
theorem ps_Mod_87 : pS "InterleavedLinkModel" "<init>" 87 10 25 (.array .int) := ⟨"InterleavedLinkModel", T_Mod, 56, cf_Mod, by decide, by decide +kernel, Or.inr ⟨rfl, rfl, rfl, (gW_in 886 (by decide +kernel) rfl)⟩⟩
theorem ps_Mod_90 : pS "InterleavedLinkModel" "<init>" 90 10 26 (.array .int) := ⟨"InterleavedLinkModel", T_Mod, 56, cf_Mod, by decide, by decide +kernel, Or.inr ⟨rfl, rfl, rfl, (gW_in 887 (by decide +kernel) rfl)⟩⟩
theorem ps_Mod_93 : pS "InterleavedLinkModel" "<init>" 93 10 27 (.array .int) := ⟨"InterleavedLinkModel", T_Mod, 56, cf_Mod, by decide, by decide +kernel, Or.inr ⟨rfl, rfl, rfl, (gW_in 888 (by decide +kernel) rfl)⟩⟩
theorem ps_Mod_96 : pS "InterleavedLinkModel" "<init>" 96 10 28 (.array .int) := ⟨"InterleavedLinkModel", T_Mod, 56, cf_Mod, by decide, by decide +kernel, Or.inr ⟨rfl, rfl, rfl, (gW_in 889 (by decide +kernel) rfl)⟩⟩
theorem ps_Mod_99 : pS "InterleavedLinkModel" "<init>" 99 10 29 (.array .int) := ⟨"InterleavedLinkModel", T_Mod, 56, cf_Mod, by decide, by decide +kernel, Or.inr ⟨rfl, rfl, rfl, (gW_in 890 (by decide +kernel) rfl)⟩⟩
theorem ps_Mod_102 : pS "InterleavedLinkModel" "<init>" 102 10 30 (.array .int) := ⟨"InterleavedLinkModel", T_Mod, 56, cf_Mod, by decide, by decide +kernel, Or.inr ⟨rfl, rfl, rfl, (gW_in 891 (by decide +kernel) rfl)⟩⟩
theorem ps_Mod_105 : pS "InterleavedLinkModel" "<init>" 105 10 31 (.array .int) := ⟨"InterleavedLinkModel", T_Mod, 56, cf_Mod, by decide, by decide +kernel, Or.inr ⟨rfl, rfl, rfl, (gW_in 892 (by decide +kernel) rfl)⟩⟩
theorem ps_Mod_108 : pS "InterleavedLinkModel" "<init>" 108 10 32 (.array .int) := ⟨"InterleavedLinkModel", T_Mod, 56, cf_Mod, by decide, by decide +kernel, Or.inr ⟨rfl, rfl, rfl, (gW_in 893 (by decide +kernel) rfl)⟩⟩
theorem ps_Mod_111 : pS "InterleavedLinkModel" "<init>" 111 10 33 (.array .int) := ⟨"InterleavedLinkModel", T_Mod, 56, cf_Mod, by decide, by decide +kernel, Or.inr ⟨rfl, rfl, rfl, (gW_in 894 (by decide +kernel) rfl)⟩⟩
theorem ps_Mod_114 : pS "InterleavedLinkModel" "<init>" 114 10 34 (.array .int) := ⟨"InterleavedLinkModel", T_Mod, 56, cf_Mod, by decide, by decide +kernel, Or.inr ⟨rfl, rfl, rfl, (gW_in 895 (by decide +kernel) rfl)⟩⟩
theorem ps_Mod_117 : pS "InterleavedLinkModel" "<init>" 117 10 36 (.array .int) := ⟨"InterleavedLinkModel", T_Mod, 56, cf_Mod, by decide, by decide +kernel, Or.inr ⟨rfl, rfl, rfl, (gW_in 897 (by decide +kernel) rfl)⟩⟩
theorem ps_Mod_120 : pS "InterleavedLinkModel" "<init>" 120 10 37 (.array .int) := ⟨"InterleavedLinkModel", T_Mod, 56, cf_Mod, by decide, by decide +kernel, Or.inr ⟨rfl, rfl, rfl, (gW_in 898 (by decide +kernel) rfl)⟩⟩
theorem ps_Mod_123 : pS "InterleavedLinkModel" "<init>" 123 10 38 (.array .boolean) := ⟨"InterleavedLinkModel", T_Mod, 56, cf_Mod, by decide, by decide +kernel, Or.inr ⟨rfl, rfl, rfl, (gW_in 899 (by decide +kernel) rfl)⟩⟩
theorem ps_Mod_126 : pS "InterleavedLinkModel" "<init>" 126 10 39 (.array .int) := ⟨"InterleavedLinkModel", T_Mod, 56, cf_Mod, by decide, by decide +kernel, Or.inr ⟨rfl, rfl, rfl, (gW_in 900 (by decide +kernel) rfl)⟩⟩
theorem ps_Mod_129 : pS "InterleavedLinkModel" "<init>" 129 10 40 (.array .boolean) := ⟨"InterleavedLinkModel", T_Mod, 56, cf_Mod, by decide, by decide +kernel, Or.inr ⟨rfl, rfl, rfl, (gW_in 901 (by decide +kernel) rfl)⟩⟩
theorem ps_Mod_132 : pS "InterleavedLinkModel" "<init>" 132 10 41 (.array .int) := ⟨"InterleavedLinkModel", T_Mod, 56, cf_Mod, by decide, by decide +kernel, Or.inr ⟨rfl, rfl, rfl, (gW_in 902 (by decide +kernel) rfl)⟩⟩
theorem ps_Mod_135 : pS "InterleavedLinkModel" "<init>" 135 10 42 (.array .int) := ⟨"InterleavedLinkModel", T_Mod, 56, cf_Mod, by decide, by decide +kernel, Or.inr ⟨rfl, rfl, rfl, (gW_in 903 (by decide +kernel) rfl)⟩⟩
theorem ps_Mod_138 : pS "InterleavedLinkModel" "<init>" 138 10 43 (.array .int) := ⟨"InterleavedLinkModel", T_Mod, 56, cf_Mod, by decide, by decide +kernel, Or.inr ⟨rfl, rfl, rfl, (gW_in 904 (by decide +kernel) rfl)⟩⟩
theorem ps_Mod_141 : pS "InterleavedLinkModel" "<init>" 141 10 44 (.array .int) := ⟨"InterleavedLinkModel", T_Mod, 56, cf_Mod, by decide, by decide +kernel, Or.inr ⟨rfl, rfl, rfl, (gW_in 905 (by decide +kernel) rfl)⟩⟩
theorem ps_Mod_144 : pS "InterleavedLinkModel" "<init>" 144 10 45 (.array .int) := ⟨"InterleavedLinkModel", T_Mod, 56, cf_Mod, by decide, by decide +kernel, Or.inr ⟨rfl, rfl, rfl, (gW_in 906 (by decide +kernel) rfl)⟩⟩
theorem ps_Mod_147 : pS "InterleavedLinkModel" "<init>" 147 10 46 (.array .int) := ⟨"InterleavedLinkModel", T_Mod, 56, cf_Mod, by decide, by decide +kernel, Or.inr ⟨rfl, rfl, rfl, (gW_in 907 (by decide +kernel) rfl)⟩⟩
theorem ps_Mod_150 : pS "InterleavedLinkModel" "<init>" 150 10 47 (.array .int) := ⟨"InterleavedLinkModel", T_Mod, 56, cf_Mod, by decide, by decide +kernel, Or.inr ⟨rfl, rfl, rfl, (gW_in 908 (by decide +kernel) rfl)⟩⟩
theorem ps_Mod_153 : pS "InterleavedLinkModel" "<init>" 153 10 48 (.array .int) := ⟨"InterleavedLinkModel", T_Mod, 56, cf_Mod, by decide, by decide +kernel, Or.inr ⟨rfl, rfl, rfl, (gW_in 909 (by decide +kernel) rfl)⟩⟩
theorem ps_Mod_156 : pS "InterleavedLinkModel" "<init>" 156 10 49 (.array .int) := ⟨"InterleavedLinkModel", T_Mod, 56, cf_Mod, by decide, by decide +kernel, Or.inr ⟨rfl, rfl, rfl, (gW_in 910 (by decide +kernel) rfl)⟩⟩
theorem ps_Mod_159 : pS "InterleavedLinkModel" "<init>" 159 10 50 (.array .int) := ⟨"InterleavedLinkModel", T_Mod, 56, cf_Mod, by decide, by decide +kernel, Or.inr ⟨rfl, rfl, rfl, (gW_in 911 (by decide +kernel) rfl)⟩⟩
theorem ps_Mod_162 : pS "InterleavedLinkModel" "<init>" 162 10 51 (.array .boolean) := ⟨"InterleavedLinkModel", T_Mod, 56, cf_Mod, by decide, by decide +kernel, Or.inr ⟨rfl, rfl, rfl, (gW_in 912 (by decide +kernel) rfl)⟩⟩
theorem ps_Mod_165 : pS "InterleavedLinkModel" "<init>" 165 10 53 (.array .int) := ⟨"InterleavedLinkModel", T_Mod, 56, cf_Mod, by decide, by decide +kernel, Or.inr ⟨rfl, rfl, rfl, (gW_in 914 (by decide +kernel) rfl)⟩⟩
theorem ps_Mod_168 : pS "InterleavedLinkModel" "<init>" 168 10 54 (.array .int) := ⟨"InterleavedLinkModel", T_Mod, 56, cf_Mod, by decide, by decide +kernel, Or.inr ⟨rfl, rfl, rfl, (gW_in 915 (by decide +kernel) rfl)⟩⟩
def mkMod0 (M : mM) (t : Nat) : mM := setR (newM (setR (newM (setR (newM (setR (newM (setR (newM (setR (newM (setR (newM (setR (newM M 100 2) t 0 (some (mN M))) 100 2) t 1 (some (mN M + 1))) 100 2) t 2 (some (mN M + 2))) 100 96) t 3 (some (mN M + 3))) 100 96) t 4 (some (mN M + 4))) 100 96) t 5 (some (mN M + 5))) 102 96) t 6 (some (mN M + 6))) 100 96) t 7 (some (mN M + 7))
def mkMod1 (M : mM) (t : Nat) : mM := setR (newM (setR (newM (setR (newM (setR (newM (setR (newM (setR (newM (setR (newM (setR (newM (mkMod0 M t) 103 96) t 8 (some (mN M + 8))) 100 768) t 9 (some (mN M + 9))) 100 768) t 10 (some (mN M + 10))) 100 768) t 11 (some (mN M + 11))) 100 768) t 12 (some (mN M + 12))) 102 24) t 13 (some (mN M + 13))) 102 24) t 14 (some (mN M + 14))) 102 24) t 15 (some (mN M + 15))
def mkMod2 (M : mM) (t : Nat) : mM := setR (newM (setR (newM (setR (newM (setR (newM (setR (newM (setR (newM (setR (newM (setR (newM (mkMod1 M t) 102 24) t 16 (some (mN M + 16))) 102 24) t 17 (some (mN M + 17))) 102 24) t 18 (some (mN M + 18))) 102 24) t 19 (some (mN M + 19))) 100 24) t 20 (some (mN M + 20))) 100 24) t 21 (some (mN M + 21))) 100 24) t 22 (some (mN M + 22))) 100 24) t 23 (some (mN M + 23))
def mkMod3 (M : mM) (t : Nat) : mM := setR (newM (setR (newM (setR (newM (setR (newM (setR (newM (setR (newM (setR (newM (setR (newM (mkMod2 M t) 100 24) t 24 (some (mN M + 24))) 100 144) t 25 (some (mN M + 25))) 100 144) t 26 (some (mN M + 26))) 100 24) t 27 (some (mN M + 27))) 100 768) t 28 (some (mN M + 28))) 100 2) t 29 (some (mN M + 29))) 100 80) t 30 (some (mN M + 30))) 100 80) t 31 (some (mN M + 31))
def mkMod4 (M : mM) (t : Nat) : mM := setR (newM (setR (newM (setR (newM (setR (newM (setR (newM (setR (newM (setR (newM (setR (newM (mkMod3 M t) 100 2) t 32 (some (mN M + 32))) 100 2) t 33 (some (mN M + 33))) 100 2) t 34 (some (mN M + 34))) 100 6) t 36 (some (mN M + 35))) 100 6) t 37 (some (mN M + 36))) 102 2) t 38 (some (mN M + 37))) 100 2) t 39 (some (mN M + 38))) 102 2) t 40 (some (mN M + 39))
def mkMod5 (M : mM) (t : Nat) : mM := setR (newM (setR (newM (setR (newM (setR (newM (setR (newM (setR (newM (setR (newM (setR (newM (mkMod4 M t) 100 2) t 41 (some (mN M + 40))) 100 16) t 42 (some (mN M + 41))) 100 16) t 43 (some (mN M + 42))) 100 4) t 44 (some (mN M + 43))) 100 4) t 45 (some (mN M + 44))) 100 24) t 46 (some (mN M + 45))) 100 24) t 47 (some (mN M + 46))) 100 2) t 48 (some (mN M + 47))
def mkMod6 (M : mM) (t : Nat) : mM := setR (newM (setR (newM (setR (newM (setR (newM (setR (newM (mkMod5 M t) 100 12) t 49 (some (mN M + 48))) 100 12) t 50 (some (mN M + 49))) 102 12) t 51 (some (mN M + 50))) 100 8) t 53 (some (mN M + 51))) 100 8) t 54 (some (mN M + 52))
theorem rR {N : mM} {t tag len s s' : Nat} {v o : Option Nat} (h : t < mN N) (hk : s ≠ s') (h2 : mR N t s = o) : mR (setR (newM N tag len) t s' v) t s = o := by rw [mR_setR, up2_k hk]; exact oR h h2
theorem nTS {N : mM} {t n a b s : Nat} {v : Option Nat} (h : a = mN N) : mT (setR (newM N t n) b s v) a = (t, n) := by subst h; exact mT_new N t n
theorem rS {N : mM} {t s : Nat} {v : Option Nat} : mR (setR N t s v) t s = v := up2_same
set_option maxRecDepth 100000 in
set_option maxHeartbeats 4000000 in
theorem mod_R_force {M : mM} {t : Nat} (hlt : t < mN M) : mR (mkMod6 M t) t 36 = some (mN M + 35) := (rR (Nat.lt_add_right 52 hlt) (by decide) (rR (Nat.lt_add_right 51 hlt) (by decide) (rR (Nat.lt_add_right 50 hlt) (by decide) (rR (Nat.lt_add_right 49 hlt) (by decide) (rR (Nat.lt_add_right 48 hlt) (by decide) (rR (Nat.lt_add_right 47 hlt) (by decide) (rR (Nat.lt_add_right 46 hlt) (by decide) (rR (Nat.lt_add_right 45 hlt) (by decide) (rR (Nat.lt_add_right 44 hlt) (by decide) (rR (Nat.lt_add_right 43 hlt) (by decide) (rR (Nat.lt_add_right 42 hlt) (by decide) (rR (Nat.lt_add_right 41 hlt) (by decide) (rR (Nat.lt_add_right 40 hlt) (by decide) (rR (Nat.lt_add_right 39 hlt) (by decide) (rR (Nat.lt_add_right 38 hlt) (by decide) (rR (Nat.lt_add_right 37 hlt) (by decide) (rR (Nat.lt_add_right 36 hlt) (by decide) rS)))))))))))))))))
set_option maxRecDepth 100000 in
set_option maxHeartbeats 4000000 in
theorem mod_T_force {M : mM} {t : Nat} : mT (mkMod6 M t) (mN M + 35) = (100, 6) := (oTT (Nat.add_lt_add_left (by decide : 35 < 52) _) (oTT (Nat.add_lt_add_left (by decide : 35 < 51) _) (oTT (Nat.add_lt_add_left (by decide : 35 < 50) _) (oTT (Nat.add_lt_add_left (by decide : 35 < 49) _) (oTT (Nat.add_lt_add_left (by decide : 35 < 48) _) (oTT (Nat.add_lt_add_left (by decide : 35 < 47) _) (oTT (Nat.add_lt_add_left (by decide : 35 < 46) _) (oTT (Nat.add_lt_add_left (by decide : 35 < 45) _) (oTT (Nat.add_lt_add_left (by decide : 35 < 44) _) (oTT (Nat.add_lt_add_left (by decide : 35 < 43) _) (oTT (Nat.add_lt_add_left (by decide : 35 < 42) _) (oTT (Nat.add_lt_add_left (by decide : 35 < 41) _) (oTT (Nat.add_lt_add_left (by decide : 35 < 40) _) (oTT (Nat.add_lt_add_left (by decide : 35 < 39) _) (oTT (Nat.add_lt_add_left (by decide : 35 < 38) _) (oTT (Nat.add_lt_add_left (by decide : 35 < 37) _) (oTT (Nat.add_lt_add_left (by decide : 35 < 36) _) (nTS rfl))))))))))))))))))
set_option maxRecDepth 100000 in
set_option maxHeartbeats 4000000 in
theorem mod_R_told {M : mM} {t : Nat} (hlt : t < mN M) : mR (mkMod6 M t) t 37 = some (mN M + 36) := (rR (Nat.lt_add_right 52 hlt) (by decide) (rR (Nat.lt_add_right 51 hlt) (by decide) (rR (Nat.lt_add_right 50 hlt) (by decide) (rR (Nat.lt_add_right 49 hlt) (by decide) (rR (Nat.lt_add_right 48 hlt) (by decide) (rR (Nat.lt_add_right 47 hlt) (by decide) (rR (Nat.lt_add_right 46 hlt) (by decide) (rR (Nat.lt_add_right 45 hlt) (by decide) (rR (Nat.lt_add_right 44 hlt) (by decide) (rR (Nat.lt_add_right 43 hlt) (by decide) (rR (Nat.lt_add_right 42 hlt) (by decide) (rR (Nat.lt_add_right 41 hlt) (by decide) (rR (Nat.lt_add_right 40 hlt) (by decide) (rR (Nat.lt_add_right 39 hlt) (by decide) (rR (Nat.lt_add_right 38 hlt) (by decide) (rR (Nat.lt_add_right 37 hlt) (by decide) rS))))))))))))))))
set_option maxRecDepth 100000 in
set_option maxHeartbeats 4000000 in
theorem mod_T_told {M : mM} {t : Nat} : mT (mkMod6 M t) (mN M + 36) = (100, 6) := (oTT (Nat.add_lt_add_left (by decide : 36 < 52) _) (oTT (Nat.add_lt_add_left (by decide : 36 < 51) _) (oTT (Nat.add_lt_add_left (by decide : 36 < 50) _) (oTT (Nat.add_lt_add_left (by decide : 36 < 49) _) (oTT (Nat.add_lt_add_left (by decide : 36 < 48) _) (oTT (Nat.add_lt_add_left (by decide : 36 < 47) _) (oTT (Nat.add_lt_add_left (by decide : 36 < 46) _) (oTT (Nat.add_lt_add_left (by decide : 36 < 45) _) (oTT (Nat.add_lt_add_left (by decide : 36 < 44) _) (oTT (Nat.add_lt_add_left (by decide : 36 < 43) _) (oTT (Nat.add_lt_add_left (by decide : 36 < 42) _) (oTT (Nat.add_lt_add_left (by decide : 36 < 41) _) (oTT (Nat.add_lt_add_left (by decide : 36 < 40) _) (oTT (Nat.add_lt_add_left (by decide : 36 < 39) _) (oTT (Nat.add_lt_add_left (by decide : 36 < 38) _) (oTT (Nat.add_lt_add_left (by decide : 36 < 37) _) (nTS rfl)))))))))))))))))
set_option maxRecDepth 100000 in
set_option maxHeartbeats 4000000 in
theorem mod_R_lastData {M : mM} {t : Nat} (hlt : t < mN M) : mR (mkMod6 M t) t 34 = some (mN M + 34) := (rR (Nat.lt_add_right 52 hlt) (by decide) (rR (Nat.lt_add_right 51 hlt) (by decide) (rR (Nat.lt_add_right 50 hlt) (by decide) (rR (Nat.lt_add_right 49 hlt) (by decide) (rR (Nat.lt_add_right 48 hlt) (by decide) (rR (Nat.lt_add_right 47 hlt) (by decide) (rR (Nat.lt_add_right 46 hlt) (by decide) (rR (Nat.lt_add_right 45 hlt) (by decide) (rR (Nat.lt_add_right 44 hlt) (by decide) (rR (Nat.lt_add_right 43 hlt) (by decide) (rR (Nat.lt_add_right 42 hlt) (by decide) (rR (Nat.lt_add_right 41 hlt) (by decide) (rR (Nat.lt_add_right 40 hlt) (by decide) (rR (Nat.lt_add_right 39 hlt) (by decide) (rR (Nat.lt_add_right 38 hlt) (by decide) (rR (Nat.lt_add_right 37 hlt) (by decide) (rR (Nat.lt_add_right 36 hlt) (by decide) (rR (Nat.lt_add_right 35 hlt) (by decide) rS))))))))))))))))))
set_option maxRecDepth 100000 in
set_option maxHeartbeats 4000000 in
theorem mod_T_lastData {M : mM} {t : Nat} : mT (mkMod6 M t) (mN M + 34) = (100, 2) := (oTT (Nat.add_lt_add_left (by decide : 34 < 52) _) (oTT (Nat.add_lt_add_left (by decide : 34 < 51) _) (oTT (Nat.add_lt_add_left (by decide : 34 < 50) _) (oTT (Nat.add_lt_add_left (by decide : 34 < 49) _) (oTT (Nat.add_lt_add_left (by decide : 34 < 48) _) (oTT (Nat.add_lt_add_left (by decide : 34 < 47) _) (oTT (Nat.add_lt_add_left (by decide : 34 < 46) _) (oTT (Nat.add_lt_add_left (by decide : 34 < 45) _) (oTT (Nat.add_lt_add_left (by decide : 34 < 44) _) (oTT (Nat.add_lt_add_left (by decide : 34 < 43) _) (oTT (Nat.add_lt_add_left (by decide : 34 < 42) _) (oTT (Nat.add_lt_add_left (by decide : 34 < 41) _) (oTT (Nat.add_lt_add_left (by decide : 34 < 40) _) (oTT (Nat.add_lt_add_left (by decide : 34 < 39) _) (oTT (Nat.add_lt_add_left (by decide : 34 < 38) _) (oTT (Nat.add_lt_add_left (by decide : 34 < 37) _) (oTT (Nat.add_lt_add_left (by decide : 34 < 36) _) (oTT (Nat.add_lt_add_left (by decide : 34 < 35) _) (nTS rfl)))))))))))))))))))
set_option maxRecDepth 100000 in
set_option maxHeartbeats 4000000 in
theorem mod_R_maximum {M : mM} {t : Nat} (hlt : t < mN M) : mR (mkMod6 M t) t 44 = some (mN M + 43) := (rR (Nat.lt_add_right 52 hlt) (by decide) (rR (Nat.lt_add_right 51 hlt) (by decide) (rR (Nat.lt_add_right 50 hlt) (by decide) (rR (Nat.lt_add_right 49 hlt) (by decide) (rR (Nat.lt_add_right 48 hlt) (by decide) (rR (Nat.lt_add_right 47 hlt) (by decide) (rR (Nat.lt_add_right 46 hlt) (by decide) (rR (Nat.lt_add_right 45 hlt) (by decide) (rR (Nat.lt_add_right 44 hlt) (by decide) rS)))))))))
set_option maxRecDepth 100000 in
set_option maxHeartbeats 4000000 in
theorem mod_T_maximum {M : mM} {t : Nat} : mT (mkMod6 M t) (mN M + 43) = (100, 4) := (oTT (Nat.add_lt_add_left (by decide : 43 < 52) _) (oTT (Nat.add_lt_add_left (by decide : 43 < 51) _) (oTT (Nat.add_lt_add_left (by decide : 43 < 50) _) (oTT (Nat.add_lt_add_left (by decide : 43 < 49) _) (oTT (Nat.add_lt_add_left (by decide : 43 < 48) _) (oTT (Nat.add_lt_add_left (by decide : 43 < 47) _) (oTT (Nat.add_lt_add_left (by decide : 43 < 46) _) (oTT (Nat.add_lt_add_left (by decide : 43 < 45) _) (oTT (Nat.add_lt_add_left (by decide : 43 < 44) _) (nTS rfl))))))))))
set_option maxRecDepth 100000 in
set_option maxHeartbeats 4000000 in
theorem mod_T {M : mM} {t : Nat} (hlt : t < mN M) (hp : (mT M t).1 = 10) : (mT (mkMod6 M t) t).1 = 10 := (oT (Nat.lt_add_right 52 hlt) (oT (Nat.lt_add_right 51 hlt) (oT (Nat.lt_add_right 50 hlt) (oT (Nat.lt_add_right 49 hlt) (oT (Nat.lt_add_right 48 hlt) (oT (Nat.lt_add_right 47 hlt) (oT (Nat.lt_add_right 46 hlt) (oT (Nat.lt_add_right 45 hlt) (oT (Nat.lt_add_right 44 hlt) (oT (Nat.lt_add_right 43 hlt) (oT (Nat.lt_add_right 42 hlt) (oT (Nat.lt_add_right 41 hlt) (oT (Nat.lt_add_right 40 hlt) (oT (Nat.lt_add_right 39 hlt) (oT (Nat.lt_add_right 38 hlt) (oT (Nat.lt_add_right 37 hlt) (oT (Nat.lt_add_right 36 hlt) (oT (Nat.lt_add_right 35 hlt) (oT (Nat.lt_add_right 34 hlt) (oT (Nat.lt_add_right 33 hlt) (oT (Nat.lt_add_right 32 hlt) (oT (Nat.lt_add_right 31 hlt) (oT (Nat.lt_add_right 30 hlt) (oT (Nat.lt_add_right 29 hlt) (oT (Nat.lt_add_right 28 hlt) (oT (Nat.lt_add_right 27 hlt) (oT (Nat.lt_add_right 26 hlt) (oT (Nat.lt_add_right 25 hlt) (oT (Nat.lt_add_right 24 hlt) (oT (Nat.lt_add_right 23 hlt) (oT (Nat.lt_add_right 22 hlt) (oT (Nat.lt_add_right 21 hlt) (oT (Nat.lt_add_right 20 hlt) (oT (Nat.lt_add_right 19 hlt) (oT (Nat.lt_add_right 18 hlt) (oT (Nat.lt_add_right 17 hlt) (oT (Nat.lt_add_right 16 hlt) (oT (Nat.lt_add_right 15 hlt) (oT (Nat.lt_add_right 14 hlt) (oT (Nat.lt_add_right 13 hlt) (oT (Nat.lt_add_right 12 hlt) (oT (Nat.lt_add_right 11 hlt) (oT (Nat.lt_add_right 10 hlt) (oT (Nat.lt_add_right 9 hlt) (oT (Nat.lt_add_right 8 hlt) (oT (Nat.lt_add_right 7 hlt) (oT (Nat.lt_add_right 6 hlt) (oT (Nat.lt_add_right 5 hlt) (oT (Nat.lt_add_right 4 hlt) (oT (Nat.lt_add_right 3 hlt) (oT (Nat.lt_add_right 2 hlt) (oT (Nat.lt_add_right 1 hlt) (oT (Nat.lt_add_right 0 hlt) hp)))))))))))))))))))))))))))))))))))))))))))))))))))))
/-- the settings of end e, as the reference begins with them; f, o, d, x: its arrays force, told, lastData, maximum -/
def modE (N : mM) (f o d x e : Nat) : mM := setI (setI (setI (setI (setI (setI (setI (setI (setI N f (3 * e) 100) f (3 * e + 1) 12) f (3 * e + 2) 16) o (3 * e) 100) o (3 * e + 1) 12) o (3 * e + 2) 16) d e (-1)) x (2 * e) 100) x (2 * e + 1) 100
def mkMod (M : mM) (t : Nat) : mM := modE (modE (mkMod6 M t) (mN M + 35) (mN M + 36) (mN M + 34) (mN M + 43) 0) (mN M + 35) (mN M + 36) (mN M + 34) (mN M + 43) 1
set_option maxRecDepth 100000 in
set_option maxHeartbeats 4000000 in
theorem g_Mod_2 {X : mX} {l : Launch} {N : mM} {t : Nat} {Q : Option Value → mM → Prop} (hq : Q none N) : G X l uMod_init (rn 1 12 53 5352) 0 0 N 423 [some (.ref t), some (.int (nI 2))] [] Q := by
  refine g_iload_n 423 dMod_init_423 rfl ?_
  refine g_iconst 424 2 dMod_init_424 rfl ?_
  refine g_icmp_ge 425 531 dMod_init_425 rfl (fun h425 => ?_) (fun h425 => ?_)
  · exact g_vret 531 dMod_init_531 rfl hq
  · exact absurd (by decide) h425
set_option maxRecDepth 100000 in
set_option maxHeartbeats 4000000 in
theorem g_Mod_1 {X : mX} {l : Launch} {N : mM} {t f o d x : Nat} {Q : Option Value → mM → Prop} (hp : (mT N t).1 = 10) (r1 : mR N t 36 = some f) (r2 : mR N t 37 = some o) (r3 : mR N t 34 = some d) (r4 : mR N t 44 = some x) (t1 : mT N f = (100, 6)) (t2 : mT N o = (100, 6)) (t3 : mT N d = (100, 2)) (t4 : mT N x = (100, 4)) (hq : Q none (modE N f o d x 1)) : G X l uMod_init (rn 1 12 53 5352) 0 0 N 423 [some (.ref t), some (.int (nI 1))] [] Q := by
  have i0 : ((3 * nI 1) : Int32).toNatClampNeg = 3 := by decide +kernel
  have v0 : vp_in (3 * nI 1) 6 := by unfold vp_in; decide +kernel
  have i1 : ((3 * nI 1 + 1) : Int32).toNatClampNeg = 4 := by decide +kernel
  have v1 : vp_in (3 * nI 1 + 1) 6 := by unfold vp_in; decide +kernel
  have i2 : ((3 * nI 1 + 2) : Int32).toNatClampNeg = 5 := by decide +kernel
  have v2 : vp_in (3 * nI 1 + 2) 6 := by unfold vp_in; decide +kernel
  have i3 : ((nI 1) : Int32).toNatClampNeg = 1 := by decide +kernel
  have v3 : vp_in (nI 1) 2 := by unfold vp_in; decide +kernel
  have i4 : ((2 * nI 1) : Int32).toNatClampNeg = 2 := by decide +kernel
  have v4 : vp_in (2 * nI 1) 4 := by unfold vp_in; decide +kernel
  have i5 : ((2 * nI 1 + 1) : Int32).toNatClampNeg = 3 := by decide +kernel
  have v5 : vp_in (2 * nI 1 + 1) 4 := by unfold vp_in; decide +kernel
  refine g_iload_n 423 dMod_init_423 rfl ?_
  refine g_iconst 424 2 dMod_init_424 rfl ?_
  refine g_icmp_ge 425 531 dMod_init_425 rfl (fun h425 => ?_) (fun h425 => ?_)
  · exact absurd h425 (by decide)
  · refine g_aload_n 428 dMod_init_428 rfl ?_
    refine g_getr 429 10 36 dMod_init_429 fs_Mod_117 rfl hp r1 ?_
    refine g_iconst 432 3 dMod_init_432 rfl ?_
    refine g_iload_n 433 dMod_init_433 rfl ?_
    refine g_imul 434 dMod_init_434 ?_
    refine g_bipush 435 100 dMod_init_435 rfl ?_
    refine g_iast 437 dMod_init_437 t1 v0 ?_
    refine g_aload_n 438 dMod_init_438 rfl ?_
    refine g_getr 439 10 36 dMod_init_439 fs_Mod_117 rfl hp r1 ?_
    refine g_iconst 442 3 dMod_init_442 rfl ?_
    refine g_iload_n 443 dMod_init_443 rfl ?_
    refine g_imul 444 dMod_init_444 ?_
    refine g_iconst 445 1 dMod_init_445 rfl ?_
    refine g_iadd 446 dMod_init_446 ?_
    refine g_bipush 447 12 dMod_init_447 rfl ?_
    refine g_iast 449 dMod_init_449 t1 v1 ?_
    refine g_aload_n 450 dMod_init_450 rfl ?_
    refine g_getr 451 10 36 dMod_init_451 fs_Mod_117 rfl hp r1 ?_
    refine g_iconst 454 3 dMod_init_454 rfl ?_
    refine g_iload_n 455 dMod_init_455 rfl ?_
    refine g_imul 456 dMod_init_456 ?_
    refine g_iconst 457 2 dMod_init_457 rfl ?_
    refine g_iadd 458 dMod_init_458 ?_
    refine g_bipush 459 16 dMod_init_459 rfl ?_
    refine g_iast 461 dMod_init_461 t1 v2 ?_
    refine g_aload_n 462 dMod_init_462 rfl ?_
    refine g_getr 463 10 37 dMod_init_463 fs_Mod_120 rfl hp r2 ?_
    refine g_iconst 466 3 dMod_init_466 rfl ?_
    refine g_iload_n 467 dMod_init_467 rfl ?_
    refine g_imul 468 dMod_init_468 ?_
    refine g_bipush 469 100 dMod_init_469 rfl ?_
    refine g_iast 471 dMod_init_471 t2 v0 ?_
    refine g_aload_n 472 dMod_init_472 rfl ?_
    refine g_getr 473 10 37 dMod_init_473 fs_Mod_120 rfl hp r2 ?_
    refine g_iconst 476 3 dMod_init_476 rfl ?_
    refine g_iload_n 477 dMod_init_477 rfl ?_
    refine g_imul 478 dMod_init_478 ?_
    refine g_iconst 479 1 dMod_init_479 rfl ?_
    refine g_iadd 480 dMod_init_480 ?_
    refine g_bipush 481 12 dMod_init_481 rfl ?_
    refine g_iast 483 dMod_init_483 t2 v1 ?_
    refine g_aload_n 484 dMod_init_484 rfl ?_
    refine g_getr 485 10 37 dMod_init_485 fs_Mod_120 rfl hp r2 ?_
    refine g_iconst 488 3 dMod_init_488 rfl ?_
    refine g_iload_n 489 dMod_init_489 rfl ?_
    refine g_imul 490 dMod_init_490 ?_
    refine g_iconst 491 2 dMod_init_491 rfl ?_
    refine g_iadd 492 dMod_init_492 ?_
    refine g_bipush 493 16 dMod_init_493 rfl ?_
    refine g_iast 495 dMod_init_495 t2 v2 ?_
    refine g_aload_n 496 dMod_init_496 rfl ?_
    refine g_getr 497 10 34 dMod_init_497 fs_Mod_114 rfl hp r3 ?_
    refine g_iload_n 500 dMod_init_500 rfl ?_
    refine g_iconst 501 (-1) dMod_init_501 rfl ?_
    refine g_iast 502 dMod_init_502 t3 v3 ?_
    refine g_aload_n 503 dMod_init_503 rfl ?_
    refine g_getr 504 10 44 dMod_init_504 fs_Mod_141 rfl hp r4 ?_
    refine g_iconst 507 2 dMod_init_507 rfl ?_
    refine g_iload_n 508 dMod_init_508 rfl ?_
    refine g_imul 509 dMod_init_509 ?_
    refine g_bipush 510 100 dMod_init_510 rfl ?_
    refine g_iast 512 dMod_init_512 t4 v4 ?_
    refine g_aload_n 513 dMod_init_513 rfl ?_
    refine g_getr 514 10 44 dMod_init_514 fs_Mod_141 rfl hp r4 ?_
    refine g_iconst 517 2 dMod_init_517 rfl ?_
    refine g_iload_n 518 dMod_init_518 rfl ?_
    refine g_imul 519 dMod_init_519 ?_
    refine g_iconst 520 1 dMod_init_520 rfl ?_
    refine g_iadd 521 dMod_init_521 ?_
    refine g_bipush 522 100 dMod_init_522 rfl ?_
    refine g_iast 524 dMod_init_524 t4 v5 ?_
    refine g_iinc 525 1 dMod_init_525 rfl rfl (by decide) rfl ?_
    refine g_goto 528 423 dMod_init_528 rfl ?_
    rw [i0, i1, i2, i3, i4, i5, nI_1]
    exact g_Mod_2 hq
set_option maxRecDepth 100000 in
set_option maxHeartbeats 4000000 in
theorem g_Mod_0 {X : mX} {l : Launch} {N : mM} {t f o d x : Nat} {Q : Option Value → mM → Prop} (hp : (mT N t).1 = 10) (r1 : mR N t 36 = some f) (r2 : mR N t 37 = some o) (r3 : mR N t 34 = some d) (r4 : mR N t 44 = some x) (t1 : mT N f = (100, 6)) (t2 : mT N o = (100, 6)) (t3 : mT N d = (100, 2)) (t4 : mT N x = (100, 4)) (hq : Q none (modE (modE N f o d x 0) f o d x 1)) : G X l uMod_init (rn 1 12 53 5352) 0 0 N 423 [some (.ref t), some (.int (nI 0))] [] Q := by
  have i0 : ((3 * nI 0) : Int32).toNatClampNeg = 0 := by decide +kernel
  have v0 : vp_in (3 * nI 0) 6 := by unfold vp_in; decide +kernel
  have i1 : ((3 * nI 0 + 1) : Int32).toNatClampNeg = 1 := by decide +kernel
  have v1 : vp_in (3 * nI 0 + 1) 6 := by unfold vp_in; decide +kernel
  have i2 : ((3 * nI 0 + 2) : Int32).toNatClampNeg = 2 := by decide +kernel
  have v2 : vp_in (3 * nI 0 + 2) 6 := by unfold vp_in; decide +kernel
  have i3 : ((nI 0) : Int32).toNatClampNeg = 0 := by decide +kernel
  have v3 : vp_in (nI 0) 2 := by unfold vp_in; decide +kernel
  have i4 : ((2 * nI 0) : Int32).toNatClampNeg = 0 := by decide +kernel
  have v4 : vp_in (2 * nI 0) 4 := by unfold vp_in; decide +kernel
  have i5 : ((2 * nI 0 + 1) : Int32).toNatClampNeg = 1 := by decide +kernel
  have v5 : vp_in (2 * nI 0 + 1) 4 := by unfold vp_in; decide +kernel
  refine g_iload_n 423 dMod_init_423 rfl ?_
  refine g_iconst 424 2 dMod_init_424 rfl ?_
  refine g_icmp_ge 425 531 dMod_init_425 rfl (fun h425 => ?_) (fun h425 => ?_)
  · exact absurd h425 (by decide)
  · refine g_aload_n 428 dMod_init_428 rfl ?_
    refine g_getr 429 10 36 dMod_init_429 fs_Mod_117 rfl hp r1 ?_
    refine g_iconst 432 3 dMod_init_432 rfl ?_
    refine g_iload_n 433 dMod_init_433 rfl ?_
    refine g_imul 434 dMod_init_434 ?_
    refine g_bipush 435 100 dMod_init_435 rfl ?_
    refine g_iast 437 dMod_init_437 t1 v0 ?_
    refine g_aload_n 438 dMod_init_438 rfl ?_
    refine g_getr 439 10 36 dMod_init_439 fs_Mod_117 rfl hp r1 ?_
    refine g_iconst 442 3 dMod_init_442 rfl ?_
    refine g_iload_n 443 dMod_init_443 rfl ?_
    refine g_imul 444 dMod_init_444 ?_
    refine g_iconst 445 1 dMod_init_445 rfl ?_
    refine g_iadd 446 dMod_init_446 ?_
    refine g_bipush 447 12 dMod_init_447 rfl ?_
    refine g_iast 449 dMod_init_449 t1 v1 ?_
    refine g_aload_n 450 dMod_init_450 rfl ?_
    refine g_getr 451 10 36 dMod_init_451 fs_Mod_117 rfl hp r1 ?_
    refine g_iconst 454 3 dMod_init_454 rfl ?_
    refine g_iload_n 455 dMod_init_455 rfl ?_
    refine g_imul 456 dMod_init_456 ?_
    refine g_iconst 457 2 dMod_init_457 rfl ?_
    refine g_iadd 458 dMod_init_458 ?_
    refine g_bipush 459 16 dMod_init_459 rfl ?_
    refine g_iast 461 dMod_init_461 t1 v2 ?_
    refine g_aload_n 462 dMod_init_462 rfl ?_
    refine g_getr 463 10 37 dMod_init_463 fs_Mod_120 rfl hp r2 ?_
    refine g_iconst 466 3 dMod_init_466 rfl ?_
    refine g_iload_n 467 dMod_init_467 rfl ?_
    refine g_imul 468 dMod_init_468 ?_
    refine g_bipush 469 100 dMod_init_469 rfl ?_
    refine g_iast 471 dMod_init_471 t2 v0 ?_
    refine g_aload_n 472 dMod_init_472 rfl ?_
    refine g_getr 473 10 37 dMod_init_473 fs_Mod_120 rfl hp r2 ?_
    refine g_iconst 476 3 dMod_init_476 rfl ?_
    refine g_iload_n 477 dMod_init_477 rfl ?_
    refine g_imul 478 dMod_init_478 ?_
    refine g_iconst 479 1 dMod_init_479 rfl ?_
    refine g_iadd 480 dMod_init_480 ?_
    refine g_bipush 481 12 dMod_init_481 rfl ?_
    refine g_iast 483 dMod_init_483 t2 v1 ?_
    refine g_aload_n 484 dMod_init_484 rfl ?_
    refine g_getr 485 10 37 dMod_init_485 fs_Mod_120 rfl hp r2 ?_
    refine g_iconst 488 3 dMod_init_488 rfl ?_
    refine g_iload_n 489 dMod_init_489 rfl ?_
    refine g_imul 490 dMod_init_490 ?_
    refine g_iconst 491 2 dMod_init_491 rfl ?_
    refine g_iadd 492 dMod_init_492 ?_
    refine g_bipush 493 16 dMod_init_493 rfl ?_
    refine g_iast 495 dMod_init_495 t2 v2 ?_
    refine g_aload_n 496 dMod_init_496 rfl ?_
    refine g_getr 497 10 34 dMod_init_497 fs_Mod_114 rfl hp r3 ?_
    refine g_iload_n 500 dMod_init_500 rfl ?_
    refine g_iconst 501 (-1) dMod_init_501 rfl ?_
    refine g_iast 502 dMod_init_502 t3 v3 ?_
    refine g_aload_n 503 dMod_init_503 rfl ?_
    refine g_getr 504 10 44 dMod_init_504 fs_Mod_141 rfl hp r4 ?_
    refine g_iconst 507 2 dMod_init_507 rfl ?_
    refine g_iload_n 508 dMod_init_508 rfl ?_
    refine g_imul 509 dMod_init_509 ?_
    refine g_bipush 510 100 dMod_init_510 rfl ?_
    refine g_iast 512 dMod_init_512 t4 v4 ?_
    refine g_aload_n 513 dMod_init_513 rfl ?_
    refine g_getr 514 10 44 dMod_init_514 fs_Mod_141 rfl hp r4 ?_
    refine g_iconst 517 2 dMod_init_517 rfl ?_
    refine g_iload_n 518 dMod_init_518 rfl ?_
    refine g_imul 519 dMod_init_519 ?_
    refine g_iconst 520 1 dMod_init_520 rfl ?_
    refine g_iadd 521 dMod_init_521 ?_
    refine g_bipush 522 100 dMod_init_522 rfl ?_
    refine g_iast 524 dMod_init_524 t4 v5 ?_
    refine g_iinc 525 1 dMod_init_525 rfl rfl (by decide) rfl ?_
    refine g_goto 528 423 dMod_init_528 rfl ?_
    rw [i0, i1, i2, i3, i4, i5, nI_1]
    exact g_Mod_1 (N := modE N f o d x 0) hp r1 r2 r3 r4 t1 t2 t3 t4 hq
set_option maxRecDepth 100000 in
set_option maxHeartbeats 4000000 in
theorem ct_Mod_init {X : mX} {l : Launch} {M : mM} {t : Nat} (hp : (mT M t).1 = 10) : Ct X l uMod_init (rn 1 12 53 5352) [.ref t] M (fun r M' => r = none ∧ M' = mkMod M t) := by
  refine Ct.of (by decide) (Nat.le_of_ble_eq_true rfl) ?_
  show G X l uMod_init (rn 1 12 53 5352) 53 5352 M 0 [some (.ref t), none] [] _
  refine G.wf fun hw => ?_
  have hlt := (hw.lt (a := t) (by rw [hp]; decide)).2
  refine g_aload_n 0 dMod_init_0 rfl ?_
  refine g_objInit 1 dMod_init_1 oi_Mod_1 oi_m oi_c ⟨(Nat.le_of_ble_eq_true rfl), (Nat.le_of_ble_eq_true rfl)⟩ ?_
  refine g_aload_n 4 dMod_init_4 rfl ?_
  refine g_iconst 5 2 dMod_init_5 rfl ?_
  refine g_newa 6 0 2 dMod_init_6 aw_int rfl rfl (fun _ => rfl) (fun _ _ h => h) (by decide) (by decide) (by decide) (by decide) (Nat.le_of_ble_eq_true rfl) (Nat.le_of_ble_eq_true rfl) ?_
  refine g_putr 8 10 0 dMod_init_8 ps_Mod_7 rfl rfl (oT (Nat.lt_add_right 0 hlt) hp) ?_
  refine g_aload_n 11 dMod_init_11 rfl ?_
  refine g_iconst 12 2 dMod_init_12 rfl ?_
  refine g_newa 13 0 2 dMod_init_13 aw_int rfl rfl (fun _ => rfl) (fun _ _ h => h) (by decide) (by decide) (by decide) (by decide) (Nat.le_of_ble_eq_true rfl) (Nat.le_of_ble_eq_true rfl) ?_
  refine g_putr 15 10 1 dMod_init_15 ps_Mod_13 rfl rfl (oT (Nat.lt_add_right 1 hlt) (oT (Nat.lt_add_right 0 hlt) hp)) ?_
  refine g_aload_n 18 dMod_init_18 rfl ?_
  refine g_iconst 19 2 dMod_init_19 rfl ?_
  refine g_newa 20 0 2 dMod_init_20 aw_int rfl rfl (fun _ => rfl) (fun _ _ h => h) (by decide) (by decide) (by decide) (by decide) (Nat.le_of_ble_eq_true rfl) (Nat.le_of_ble_eq_true rfl) ?_
  refine g_putr 22 10 2 dMod_init_22 ps_Mod_16 rfl rfl (oT (Nat.lt_add_right 2 hlt) (oT (Nat.lt_add_right 1 hlt) (oT (Nat.lt_add_right 0 hlt) hp))) ?_
  refine g_aload_n 25 dMod_init_25 rfl ?_
  refine g_bipush 26 96 dMod_init_26 rfl ?_
  refine g_newa 28 0 96 dMod_init_28 aw_int rfl rfl (fun _ => rfl) (fun _ _ h => h) (by decide) (by decide) (by decide) (by decide) (Nat.le_of_ble_eq_true rfl) (Nat.le_of_ble_eq_true rfl) ?_
  refine g_putr 30 10 3 dMod_init_30 ps_Mod_19 rfl rfl (oT (Nat.lt_add_right 3 hlt) (oT (Nat.lt_add_right 2 hlt) (oT (Nat.lt_add_right 1 hlt) (oT (Nat.lt_add_right 0 hlt) hp)))) ?_
  refine g_aload_n 33 dMod_init_33 rfl ?_
  refine g_bipush 34 96 dMod_init_34 rfl ?_
  refine g_newa 36 0 96 dMod_init_36 aw_int rfl rfl (fun _ => rfl) (fun _ _ h => h) (by decide) (by decide) (by decide) (by decide) (Nat.le_of_ble_eq_true rfl) (Nat.le_of_ble_eq_true rfl) ?_
  refine g_putr 38 10 4 dMod_init_38 ps_Mod_22 rfl rfl (oT (Nat.lt_add_right 4 hlt) (oT (Nat.lt_add_right 3 hlt) (oT (Nat.lt_add_right 2 hlt) (oT (Nat.lt_add_right 1 hlt) (oT (Nat.lt_add_right 0 hlt) hp))))) ?_
  refine g_aload_n 41 dMod_init_41 rfl ?_
  refine g_bipush 42 96 dMod_init_42 rfl ?_
  refine g_newa 44 0 96 dMod_init_44 aw_int rfl rfl (fun _ => rfl) (fun _ _ h => h) (by decide) (by decide) (by decide) (by decide) (Nat.le_of_ble_eq_true rfl) (Nat.le_of_ble_eq_true rfl) ?_
  refine g_putr 46 10 5 dMod_init_46 ps_Mod_25 rfl rfl (oT (Nat.lt_add_right 5 hlt) (oT (Nat.lt_add_right 4 hlt) (oT (Nat.lt_add_right 3 hlt) (oT (Nat.lt_add_right 2 hlt) (oT (Nat.lt_add_right 1 hlt) (oT (Nat.lt_add_right 0 hlt) hp)))))) ?_
  refine g_aload_n 49 dMod_init_49 rfl ?_
  refine g_bipush 50 96 dMod_init_50 rfl ?_
  refine g_newa 52 2 96 dMod_init_52 aw_boolean rfl rfl (fun _ => rfl) (fun _ _ h => h) (by decide) (by decide) (by decide) (by decide) (Nat.le_of_ble_eq_true rfl) (Nat.le_of_ble_eq_true rfl) ?_
  refine g_putr 54 10 6 dMod_init_54 ps_Mod_28 rfl rfl (oT (Nat.lt_add_right 6 hlt) (oT (Nat.lt_add_right 5 hlt) (oT (Nat.lt_add_right 4 hlt) (oT (Nat.lt_add_right 3 hlt) (oT (Nat.lt_add_right 2 hlt) (oT (Nat.lt_add_right 1 hlt) (oT (Nat.lt_add_right 0 hlt) hp))))))) ?_
  refine g_aload_n 57 dMod_init_57 rfl ?_
  refine g_bipush 58 96 dMod_init_58 rfl ?_
  refine g_newa 60 0 96 dMod_init_60 aw_int rfl rfl (fun _ => rfl) (fun _ _ h => h) (by decide) (by decide) (by decide) (by decide) (Nat.le_of_ble_eq_true rfl) (Nat.le_of_ble_eq_true rfl) ?_
  refine g_putr 62 10 7 dMod_init_62 ps_Mod_32 rfl rfl (oT (Nat.lt_add_right 7 hlt) (oT (Nat.lt_add_right 6 hlt) (oT (Nat.lt_add_right 5 hlt) (oT (Nat.lt_add_right 4 hlt) (oT (Nat.lt_add_right 3 hlt) (oT (Nat.lt_add_right 2 hlt) (oT (Nat.lt_add_right 1 hlt) (oT (Nat.lt_add_right 0 hlt) hp)))))))) ?_
  refine g_aload_n 65 dMod_init_65 rfl ?_
  refine g_bipush 66 96 dMod_init_66 rfl ?_
  refine g_newa 68 3 96 dMod_init_68 aw_long rfl rfl (fun _ => rfl) (fun _ _ h => h) (by decide) (by decide) (by decide) (by decide) (Nat.le_of_ble_eq_true rfl) (Nat.le_of_ble_eq_true rfl) ?_
  refine g_putr 70 10 8 dMod_init_70 ps_Mod_35 rfl rfl (oT (Nat.lt_add_right 8 hlt) (oT (Nat.lt_add_right 7 hlt) (oT (Nat.lt_add_right 6 hlt) (oT (Nat.lt_add_right 5 hlt) (oT (Nat.lt_add_right 4 hlt) (oT (Nat.lt_add_right 3 hlt) (oT (Nat.lt_add_right 2 hlt) (oT (Nat.lt_add_right 1 hlt) (oT (Nat.lt_add_right 0 hlt) hp))))))))) ?_
  refine g_aload_n 73 dMod_init_73 rfl ?_
  refine g_sipush 74 768 dMod_init_74 rfl ?_
  refine g_newa 77 0 768 dMod_init_77 aw_int rfl rfl (fun _ => rfl) (fun _ _ h => h) (by decide) (by decide) (by decide) (by decide) (Nat.le_of_ble_eq_true rfl) (Nat.le_of_ble_eq_true rfl) ?_
  refine g_putr 79 10 9 dMod_init_79 ps_Mod_39 rfl rfl (oT (Nat.lt_add_right 9 hlt) (oT (Nat.lt_add_right 8 hlt) (oT (Nat.lt_add_right 7 hlt) (oT (Nat.lt_add_right 6 hlt) (oT (Nat.lt_add_right 5 hlt) (oT (Nat.lt_add_right 4 hlt) (oT (Nat.lt_add_right 3 hlt) (oT (Nat.lt_add_right 2 hlt) (oT (Nat.lt_add_right 1 hlt) (oT (Nat.lt_add_right 0 hlt) hp)))))))))) ?_
  refine g_aload_n 82 dMod_init_82 rfl ?_
  refine g_sipush 83 768 dMod_init_83 rfl ?_
  refine g_newa 86 0 768 dMod_init_86 aw_int rfl rfl (fun _ => rfl) (fun _ _ h => h) (by decide) (by decide) (by decide) (by decide) (Nat.le_of_ble_eq_true rfl) (Nat.le_of_ble_eq_true rfl) ?_
  refine g_putr 88 10 10 dMod_init_88 ps_Mod_42 rfl rfl (oT (Nat.lt_add_right 10 hlt) (oT (Nat.lt_add_right 9 hlt) (oT (Nat.lt_add_right 8 hlt) (oT (Nat.lt_add_right 7 hlt) (oT (Nat.lt_add_right 6 hlt) (oT (Nat.lt_add_right 5 hlt) (oT (Nat.lt_add_right 4 hlt) (oT (Nat.lt_add_right 3 hlt) (oT (Nat.lt_add_right 2 hlt) (oT (Nat.lt_add_right 1 hlt) (oT (Nat.lt_add_right 0 hlt) hp))))))))))) ?_
  refine g_aload_n 91 dMod_init_91 rfl ?_
  refine g_sipush 92 768 dMod_init_92 rfl ?_
  refine g_newa 95 0 768 dMod_init_95 aw_int rfl rfl (fun _ => rfl) (fun _ _ h => h) (by decide) (by decide) (by decide) (by decide) (Nat.le_of_ble_eq_true rfl) (Nat.le_of_ble_eq_true rfl) ?_
  refine g_putr 97 10 11 dMod_init_97 ps_Mod_45 rfl rfl (oT (Nat.lt_add_right 11 hlt) (oT (Nat.lt_add_right 10 hlt) (oT (Nat.lt_add_right 9 hlt) (oT (Nat.lt_add_right 8 hlt) (oT (Nat.lt_add_right 7 hlt) (oT (Nat.lt_add_right 6 hlt) (oT (Nat.lt_add_right 5 hlt) (oT (Nat.lt_add_right 4 hlt) (oT (Nat.lt_add_right 3 hlt) (oT (Nat.lt_add_right 2 hlt) (oT (Nat.lt_add_right 1 hlt) (oT (Nat.lt_add_right 0 hlt) hp)))))))))))) ?_
  refine g_aload_n 100 dMod_init_100 rfl ?_
  refine g_sipush 101 768 dMod_init_101 rfl ?_
  refine g_newa 104 0 768 dMod_init_104 aw_int rfl rfl (fun _ => rfl) (fun _ _ h => h) (by decide) (by decide) (by decide) (by decide) (Nat.le_of_ble_eq_true rfl) (Nat.le_of_ble_eq_true rfl) ?_
  refine g_putr 106 10 12 dMod_init_106 ps_Mod_48 rfl rfl (oT (Nat.lt_add_right 12 hlt) (oT (Nat.lt_add_right 11 hlt) (oT (Nat.lt_add_right 10 hlt) (oT (Nat.lt_add_right 9 hlt) (oT (Nat.lt_add_right 8 hlt) (oT (Nat.lt_add_right 7 hlt) (oT (Nat.lt_add_right 6 hlt) (oT (Nat.lt_add_right 5 hlt) (oT (Nat.lt_add_right 4 hlt) (oT (Nat.lt_add_right 3 hlt) (oT (Nat.lt_add_right 2 hlt) (oT (Nat.lt_add_right 1 hlt) (oT (Nat.lt_add_right 0 hlt) hp))))))))))))) ?_
  refine g_aload_n 109 dMod_init_109 rfl ?_
  refine g_bipush 110 24 dMod_init_110 rfl ?_
  refine g_newa 112 2 24 dMod_init_112 aw_boolean rfl rfl (fun _ => rfl) (fun _ _ h => h) (by decide) (by decide) (by decide) (by decide) (Nat.le_of_ble_eq_true rfl) (Nat.le_of_ble_eq_true rfl) ?_
  refine g_putr 114 10 13 dMod_init_114 ps_Mod_51 rfl rfl (oT (Nat.lt_add_right 13 hlt) (oT (Nat.lt_add_right 12 hlt) (oT (Nat.lt_add_right 11 hlt) (oT (Nat.lt_add_right 10 hlt) (oT (Nat.lt_add_right 9 hlt) (oT (Nat.lt_add_right 8 hlt) (oT (Nat.lt_add_right 7 hlt) (oT (Nat.lt_add_right 6 hlt) (oT (Nat.lt_add_right 5 hlt) (oT (Nat.lt_add_right 4 hlt) (oT (Nat.lt_add_right 3 hlt) (oT (Nat.lt_add_right 2 hlt) (oT (Nat.lt_add_right 1 hlt) (oT (Nat.lt_add_right 0 hlt) hp)))))))))))))) ?_
  refine g_aload_n 117 dMod_init_117 rfl ?_
  refine g_bipush 118 24 dMod_init_118 rfl ?_
  refine g_newa 120 2 24 dMod_init_120 aw_boolean rfl rfl (fun _ => rfl) (fun _ _ h => h) (by decide) (by decide) (by decide) (by decide) (Nat.le_of_ble_eq_true rfl) (Nat.le_of_ble_eq_true rfl) ?_
  refine g_putr 122 10 14 dMod_init_122 ps_Mod_54 rfl rfl (oT (Nat.lt_add_right 14 hlt) (oT (Nat.lt_add_right 13 hlt) (oT (Nat.lt_add_right 12 hlt) (oT (Nat.lt_add_right 11 hlt) (oT (Nat.lt_add_right 10 hlt) (oT (Nat.lt_add_right 9 hlt) (oT (Nat.lt_add_right 8 hlt) (oT (Nat.lt_add_right 7 hlt) (oT (Nat.lt_add_right 6 hlt) (oT (Nat.lt_add_right 5 hlt) (oT (Nat.lt_add_right 4 hlt) (oT (Nat.lt_add_right 3 hlt) (oT (Nat.lt_add_right 2 hlt) (oT (Nat.lt_add_right 1 hlt) (oT (Nat.lt_add_right 0 hlt) hp))))))))))))))) ?_
  refine g_aload_n 125 dMod_init_125 rfl ?_
  refine g_bipush 126 24 dMod_init_126 rfl ?_
  refine g_newa 128 2 24 dMod_init_128 aw_boolean rfl rfl (fun _ => rfl) (fun _ _ h => h) (by decide) (by decide) (by decide) (by decide) (Nat.le_of_ble_eq_true rfl) (Nat.le_of_ble_eq_true rfl) ?_
  refine g_putr 130 10 15 dMod_init_130 ps_Mod_57 rfl rfl (oT (Nat.lt_add_right 15 hlt) (oT (Nat.lt_add_right 14 hlt) (oT (Nat.lt_add_right 13 hlt) (oT (Nat.lt_add_right 12 hlt) (oT (Nat.lt_add_right 11 hlt) (oT (Nat.lt_add_right 10 hlt) (oT (Nat.lt_add_right 9 hlt) (oT (Nat.lt_add_right 8 hlt) (oT (Nat.lt_add_right 7 hlt) (oT (Nat.lt_add_right 6 hlt) (oT (Nat.lt_add_right 5 hlt) (oT (Nat.lt_add_right 4 hlt) (oT (Nat.lt_add_right 3 hlt) (oT (Nat.lt_add_right 2 hlt) (oT (Nat.lt_add_right 1 hlt) (oT (Nat.lt_add_right 0 hlt) hp)))))))))))))))) ?_
  refine g_aload_n 133 dMod_init_133 rfl ?_
  refine g_bipush 134 24 dMod_init_134 rfl ?_
  refine g_newa 136 2 24 dMod_init_136 aw_boolean rfl rfl (fun _ => rfl) (fun _ _ h => h) (by decide) (by decide) (by decide) (by decide) (Nat.le_of_ble_eq_true rfl) (Nat.le_of_ble_eq_true rfl) ?_
  refine g_putr 138 10 16 dMod_init_138 ps_Mod_60 rfl rfl (oT (Nat.lt_add_right 16 hlt) (oT (Nat.lt_add_right 15 hlt) (oT (Nat.lt_add_right 14 hlt) (oT (Nat.lt_add_right 13 hlt) (oT (Nat.lt_add_right 12 hlt) (oT (Nat.lt_add_right 11 hlt) (oT (Nat.lt_add_right 10 hlt) (oT (Nat.lt_add_right 9 hlt) (oT (Nat.lt_add_right 8 hlt) (oT (Nat.lt_add_right 7 hlt) (oT (Nat.lt_add_right 6 hlt) (oT (Nat.lt_add_right 5 hlt) (oT (Nat.lt_add_right 4 hlt) (oT (Nat.lt_add_right 3 hlt) (oT (Nat.lt_add_right 2 hlt) (oT (Nat.lt_add_right 1 hlt) (oT (Nat.lt_add_right 0 hlt) hp))))))))))))))))) ?_
  refine g_aload_n 141 dMod_init_141 rfl ?_
  refine g_bipush 142 24 dMod_init_142 rfl ?_
  refine g_newa 144 2 24 dMod_init_144 aw_boolean rfl rfl (fun _ => rfl) (fun _ _ h => h) (by decide) (by decide) (by decide) (by decide) (Nat.le_of_ble_eq_true rfl) (Nat.le_of_ble_eq_true rfl) ?_
  refine g_putr 146 10 17 dMod_init_146 ps_Mod_63 rfl rfl (oT (Nat.lt_add_right 17 hlt) (oT (Nat.lt_add_right 16 hlt) (oT (Nat.lt_add_right 15 hlt) (oT (Nat.lt_add_right 14 hlt) (oT (Nat.lt_add_right 13 hlt) (oT (Nat.lt_add_right 12 hlt) (oT (Nat.lt_add_right 11 hlt) (oT (Nat.lt_add_right 10 hlt) (oT (Nat.lt_add_right 9 hlt) (oT (Nat.lt_add_right 8 hlt) (oT (Nat.lt_add_right 7 hlt) (oT (Nat.lt_add_right 6 hlt) (oT (Nat.lt_add_right 5 hlt) (oT (Nat.lt_add_right 4 hlt) (oT (Nat.lt_add_right 3 hlt) (oT (Nat.lt_add_right 2 hlt) (oT (Nat.lt_add_right 1 hlt) (oT (Nat.lt_add_right 0 hlt) hp)))))))))))))))))) ?_
  refine g_aload_n 149 dMod_init_149 rfl ?_
  refine g_bipush 150 24 dMod_init_150 rfl ?_
  refine g_newa 152 2 24 dMod_init_152 aw_boolean rfl rfl (fun _ => rfl) (fun _ _ h => h) (by decide) (by decide) (by decide) (by decide) (Nat.le_of_ble_eq_true rfl) (Nat.le_of_ble_eq_true rfl) ?_
  refine g_putr 154 10 18 dMod_init_154 ps_Mod_66 rfl rfl (oT (Nat.lt_add_right 18 hlt) (oT (Nat.lt_add_right 17 hlt) (oT (Nat.lt_add_right 16 hlt) (oT (Nat.lt_add_right 15 hlt) (oT (Nat.lt_add_right 14 hlt) (oT (Nat.lt_add_right 13 hlt) (oT (Nat.lt_add_right 12 hlt) (oT (Nat.lt_add_right 11 hlt) (oT (Nat.lt_add_right 10 hlt) (oT (Nat.lt_add_right 9 hlt) (oT (Nat.lt_add_right 8 hlt) (oT (Nat.lt_add_right 7 hlt) (oT (Nat.lt_add_right 6 hlt) (oT (Nat.lt_add_right 5 hlt) (oT (Nat.lt_add_right 4 hlt) (oT (Nat.lt_add_right 3 hlt) (oT (Nat.lt_add_right 2 hlt) (oT (Nat.lt_add_right 1 hlt) (oT (Nat.lt_add_right 0 hlt) hp))))))))))))))))))) ?_
  refine g_aload_n 157 dMod_init_157 rfl ?_
  refine g_bipush 158 24 dMod_init_158 rfl ?_
  refine g_newa 160 2 24 dMod_init_160 aw_boolean rfl rfl (fun _ => rfl) (fun _ _ h => h) (by decide) (by decide) (by decide) (by decide) (Nat.le_of_ble_eq_true rfl) (Nat.le_of_ble_eq_true rfl) ?_
  refine g_putr 162 10 19 dMod_init_162 ps_Mod_69 rfl rfl (oT (Nat.lt_add_right 19 hlt) (oT (Nat.lt_add_right 18 hlt) (oT (Nat.lt_add_right 17 hlt) (oT (Nat.lt_add_right 16 hlt) (oT (Nat.lt_add_right 15 hlt) (oT (Nat.lt_add_right 14 hlt) (oT (Nat.lt_add_right 13 hlt) (oT (Nat.lt_add_right 12 hlt) (oT (Nat.lt_add_right 11 hlt) (oT (Nat.lt_add_right 10 hlt) (oT (Nat.lt_add_right 9 hlt) (oT (Nat.lt_add_right 8 hlt) (oT (Nat.lt_add_right 7 hlt) (oT (Nat.lt_add_right 6 hlt) (oT (Nat.lt_add_right 5 hlt) (oT (Nat.lt_add_right 4 hlt) (oT (Nat.lt_add_right 3 hlt) (oT (Nat.lt_add_right 2 hlt) (oT (Nat.lt_add_right 1 hlt) (oT (Nat.lt_add_right 0 hlt) hp)))))))))))))))))))) ?_
  refine g_aload_n 165 dMod_init_165 rfl ?_
  refine g_bipush 166 24 dMod_init_166 rfl ?_
  refine g_newa 168 0 24 dMod_init_168 aw_int rfl rfl (fun _ => rfl) (fun _ _ h => h) (by decide) (by decide) (by decide) (by decide) (Nat.le_of_ble_eq_true rfl) (Nat.le_of_ble_eq_true rfl) ?_
  refine g_putr 170 10 20 dMod_init_170 ps_Mod_72 rfl rfl (oT (Nat.lt_add_right 20 hlt) (oT (Nat.lt_add_right 19 hlt) (oT (Nat.lt_add_right 18 hlt) (oT (Nat.lt_add_right 17 hlt) (oT (Nat.lt_add_right 16 hlt) (oT (Nat.lt_add_right 15 hlt) (oT (Nat.lt_add_right 14 hlt) (oT (Nat.lt_add_right 13 hlt) (oT (Nat.lt_add_right 12 hlt) (oT (Nat.lt_add_right 11 hlt) (oT (Nat.lt_add_right 10 hlt) (oT (Nat.lt_add_right 9 hlt) (oT (Nat.lt_add_right 8 hlt) (oT (Nat.lt_add_right 7 hlt) (oT (Nat.lt_add_right 6 hlt) (oT (Nat.lt_add_right 5 hlt) (oT (Nat.lt_add_right 4 hlt) (oT (Nat.lt_add_right 3 hlt) (oT (Nat.lt_add_right 2 hlt) (oT (Nat.lt_add_right 1 hlt) (oT (Nat.lt_add_right 0 hlt) hp))))))))))))))))))))) ?_
  refine g_aload_n 173 dMod_init_173 rfl ?_
  refine g_bipush 174 24 dMod_init_174 rfl ?_
  refine g_newa 176 0 24 dMod_init_176 aw_int rfl rfl (fun _ => rfl) (fun _ _ h => h) (by decide) (by decide) (by decide) (by decide) (Nat.le_of_ble_eq_true rfl) (Nat.le_of_ble_eq_true rfl) ?_
  refine g_putr 178 10 21 dMod_init_178 ps_Mod_75 rfl rfl (oT (Nat.lt_add_right 21 hlt) (oT (Nat.lt_add_right 20 hlt) (oT (Nat.lt_add_right 19 hlt) (oT (Nat.lt_add_right 18 hlt) (oT (Nat.lt_add_right 17 hlt) (oT (Nat.lt_add_right 16 hlt) (oT (Nat.lt_add_right 15 hlt) (oT (Nat.lt_add_right 14 hlt) (oT (Nat.lt_add_right 13 hlt) (oT (Nat.lt_add_right 12 hlt) (oT (Nat.lt_add_right 11 hlt) (oT (Nat.lt_add_right 10 hlt) (oT (Nat.lt_add_right 9 hlt) (oT (Nat.lt_add_right 8 hlt) (oT (Nat.lt_add_right 7 hlt) (oT (Nat.lt_add_right 6 hlt) (oT (Nat.lt_add_right 5 hlt) (oT (Nat.lt_add_right 4 hlt) (oT (Nat.lt_add_right 3 hlt) (oT (Nat.lt_add_right 2 hlt) (oT (Nat.lt_add_right 1 hlt) (oT (Nat.lt_add_right 0 hlt) hp)))))))))))))))))))))) ?_
  refine g_aload_n 181 dMod_init_181 rfl ?_
  refine g_bipush 182 24 dMod_init_182 rfl ?_
  refine g_newa 184 0 24 dMod_init_184 aw_int rfl rfl (fun _ => rfl) (fun _ _ h => h) (by decide) (by decide) (by decide) (by decide) (Nat.le_of_ble_eq_true rfl) (Nat.le_of_ble_eq_true rfl) ?_
  refine g_putr 186 10 22 dMod_init_186 ps_Mod_78 rfl rfl (oT (Nat.lt_add_right 22 hlt) (oT (Nat.lt_add_right 21 hlt) (oT (Nat.lt_add_right 20 hlt) (oT (Nat.lt_add_right 19 hlt) (oT (Nat.lt_add_right 18 hlt) (oT (Nat.lt_add_right 17 hlt) (oT (Nat.lt_add_right 16 hlt) (oT (Nat.lt_add_right 15 hlt) (oT (Nat.lt_add_right 14 hlt) (oT (Nat.lt_add_right 13 hlt) (oT (Nat.lt_add_right 12 hlt) (oT (Nat.lt_add_right 11 hlt) (oT (Nat.lt_add_right 10 hlt) (oT (Nat.lt_add_right 9 hlt) (oT (Nat.lt_add_right 8 hlt) (oT (Nat.lt_add_right 7 hlt) (oT (Nat.lt_add_right 6 hlt) (oT (Nat.lt_add_right 5 hlt) (oT (Nat.lt_add_right 4 hlt) (oT (Nat.lt_add_right 3 hlt) (oT (Nat.lt_add_right 2 hlt) (oT (Nat.lt_add_right 1 hlt) (oT (Nat.lt_add_right 0 hlt) hp))))))))))))))))))))))) ?_
  refine g_aload_n 189 dMod_init_189 rfl ?_
  refine g_bipush 190 24 dMod_init_190 rfl ?_
  refine g_newa 192 0 24 dMod_init_192 aw_int rfl rfl (fun _ => rfl) (fun _ _ h => h) (by decide) (by decide) (by decide) (by decide) (Nat.le_of_ble_eq_true rfl) (Nat.le_of_ble_eq_true rfl) ?_
  refine g_putr 194 10 23 dMod_init_194 ps_Mod_81 rfl rfl (oT (Nat.lt_add_right 23 hlt) (oT (Nat.lt_add_right 22 hlt) (oT (Nat.lt_add_right 21 hlt) (oT (Nat.lt_add_right 20 hlt) (oT (Nat.lt_add_right 19 hlt) (oT (Nat.lt_add_right 18 hlt) (oT (Nat.lt_add_right 17 hlt) (oT (Nat.lt_add_right 16 hlt) (oT (Nat.lt_add_right 15 hlt) (oT (Nat.lt_add_right 14 hlt) (oT (Nat.lt_add_right 13 hlt) (oT (Nat.lt_add_right 12 hlt) (oT (Nat.lt_add_right 11 hlt) (oT (Nat.lt_add_right 10 hlt) (oT (Nat.lt_add_right 9 hlt) (oT (Nat.lt_add_right 8 hlt) (oT (Nat.lt_add_right 7 hlt) (oT (Nat.lt_add_right 6 hlt) (oT (Nat.lt_add_right 5 hlt) (oT (Nat.lt_add_right 4 hlt) (oT (Nat.lt_add_right 3 hlt) (oT (Nat.lt_add_right 2 hlt) (oT (Nat.lt_add_right 1 hlt) (oT (Nat.lt_add_right 0 hlt) hp)))))))))))))))))))))))) ?_
  refine g_aload_n 197 dMod_init_197 rfl ?_
  refine g_bipush 198 24 dMod_init_198 rfl ?_
  refine g_newa 200 0 24 dMod_init_200 aw_int rfl rfl (fun _ => rfl) (fun _ _ h => h) (by decide) (by decide) (by decide) (by decide) (Nat.le_of_ble_eq_true rfl) (Nat.le_of_ble_eq_true rfl) ?_
  refine g_putr 202 10 24 dMod_init_202 ps_Mod_84 rfl rfl (oT (Nat.lt_add_right 24 hlt) (oT (Nat.lt_add_right 23 hlt) (oT (Nat.lt_add_right 22 hlt) (oT (Nat.lt_add_right 21 hlt) (oT (Nat.lt_add_right 20 hlt) (oT (Nat.lt_add_right 19 hlt) (oT (Nat.lt_add_right 18 hlt) (oT (Nat.lt_add_right 17 hlt) (oT (Nat.lt_add_right 16 hlt) (oT (Nat.lt_add_right 15 hlt) (oT (Nat.lt_add_right 14 hlt) (oT (Nat.lt_add_right 13 hlt) (oT (Nat.lt_add_right 12 hlt) (oT (Nat.lt_add_right 11 hlt) (oT (Nat.lt_add_right 10 hlt) (oT (Nat.lt_add_right 9 hlt) (oT (Nat.lt_add_right 8 hlt) (oT (Nat.lt_add_right 7 hlt) (oT (Nat.lt_add_right 6 hlt) (oT (Nat.lt_add_right 5 hlt) (oT (Nat.lt_add_right 4 hlt) (oT (Nat.lt_add_right 3 hlt) (oT (Nat.lt_add_right 2 hlt) (oT (Nat.lt_add_right 1 hlt) (oT (Nat.lt_add_right 0 hlt) hp))))))))))))))))))))))))) ?_
  refine g_aload_n 205 dMod_init_205 rfl ?_
  refine g_sipush 206 144 dMod_init_206 rfl ?_
  refine g_newa 209 0 144 dMod_init_209 aw_int rfl rfl (fun _ => rfl) (fun _ _ h => h) (by decide) (by decide) (by decide) (by decide) (Nat.le_of_ble_eq_true rfl) (Nat.le_of_ble_eq_true rfl) ?_
  refine g_putr 211 10 25 dMod_init_211 ps_Mod_87 rfl rfl (oT (Nat.lt_add_right 25 hlt) (oT (Nat.lt_add_right 24 hlt) (oT (Nat.lt_add_right 23 hlt) (oT (Nat.lt_add_right 22 hlt) (oT (Nat.lt_add_right 21 hlt) (oT (Nat.lt_add_right 20 hlt) (oT (Nat.lt_add_right 19 hlt) (oT (Nat.lt_add_right 18 hlt) (oT (Nat.lt_add_right 17 hlt) (oT (Nat.lt_add_right 16 hlt) (oT (Nat.lt_add_right 15 hlt) (oT (Nat.lt_add_right 14 hlt) (oT (Nat.lt_add_right 13 hlt) (oT (Nat.lt_add_right 12 hlt) (oT (Nat.lt_add_right 11 hlt) (oT (Nat.lt_add_right 10 hlt) (oT (Nat.lt_add_right 9 hlt) (oT (Nat.lt_add_right 8 hlt) (oT (Nat.lt_add_right 7 hlt) (oT (Nat.lt_add_right 6 hlt) (oT (Nat.lt_add_right 5 hlt) (oT (Nat.lt_add_right 4 hlt) (oT (Nat.lt_add_right 3 hlt) (oT (Nat.lt_add_right 2 hlt) (oT (Nat.lt_add_right 1 hlt) (oT (Nat.lt_add_right 0 hlt) hp)))))))))))))))))))))))))) ?_
  refine g_aload_n 214 dMod_init_214 rfl ?_
  refine g_sipush 215 144 dMod_init_215 rfl ?_
  refine g_newa 218 0 144 dMod_init_218 aw_int rfl rfl (fun _ => rfl) (fun _ _ h => h) (by decide) (by decide) (by decide) (by decide) (Nat.le_of_ble_eq_true rfl) (Nat.le_of_ble_eq_true rfl) ?_
  refine g_putr 220 10 26 dMod_init_220 ps_Mod_90 rfl rfl (oT (Nat.lt_add_right 26 hlt) (oT (Nat.lt_add_right 25 hlt) (oT (Nat.lt_add_right 24 hlt) (oT (Nat.lt_add_right 23 hlt) (oT (Nat.lt_add_right 22 hlt) (oT (Nat.lt_add_right 21 hlt) (oT (Nat.lt_add_right 20 hlt) (oT (Nat.lt_add_right 19 hlt) (oT (Nat.lt_add_right 18 hlt) (oT (Nat.lt_add_right 17 hlt) (oT (Nat.lt_add_right 16 hlt) (oT (Nat.lt_add_right 15 hlt) (oT (Nat.lt_add_right 14 hlt) (oT (Nat.lt_add_right 13 hlt) (oT (Nat.lt_add_right 12 hlt) (oT (Nat.lt_add_right 11 hlt) (oT (Nat.lt_add_right 10 hlt) (oT (Nat.lt_add_right 9 hlt) (oT (Nat.lt_add_right 8 hlt) (oT (Nat.lt_add_right 7 hlt) (oT (Nat.lt_add_right 6 hlt) (oT (Nat.lt_add_right 5 hlt) (oT (Nat.lt_add_right 4 hlt) (oT (Nat.lt_add_right 3 hlt) (oT (Nat.lt_add_right 2 hlt) (oT (Nat.lt_add_right 1 hlt) (oT (Nat.lt_add_right 0 hlt) hp))))))))))))))))))))))))))) ?_
  refine g_aload_n 223 dMod_init_223 rfl ?_
  refine g_bipush 224 24 dMod_init_224 rfl ?_
  refine g_newa 226 0 24 dMod_init_226 aw_int rfl rfl (fun _ => rfl) (fun _ _ h => h) (by decide) (by decide) (by decide) (by decide) (Nat.le_of_ble_eq_true rfl) (Nat.le_of_ble_eq_true rfl) ?_
  refine g_putr 228 10 27 dMod_init_228 ps_Mod_93 rfl rfl (oT (Nat.lt_add_right 27 hlt) (oT (Nat.lt_add_right 26 hlt) (oT (Nat.lt_add_right 25 hlt) (oT (Nat.lt_add_right 24 hlt) (oT (Nat.lt_add_right 23 hlt) (oT (Nat.lt_add_right 22 hlt) (oT (Nat.lt_add_right 21 hlt) (oT (Nat.lt_add_right 20 hlt) (oT (Nat.lt_add_right 19 hlt) (oT (Nat.lt_add_right 18 hlt) (oT (Nat.lt_add_right 17 hlt) (oT (Nat.lt_add_right 16 hlt) (oT (Nat.lt_add_right 15 hlt) (oT (Nat.lt_add_right 14 hlt) (oT (Nat.lt_add_right 13 hlt) (oT (Nat.lt_add_right 12 hlt) (oT (Nat.lt_add_right 11 hlt) (oT (Nat.lt_add_right 10 hlt) (oT (Nat.lt_add_right 9 hlt) (oT (Nat.lt_add_right 8 hlt) (oT (Nat.lt_add_right 7 hlt) (oT (Nat.lt_add_right 6 hlt) (oT (Nat.lt_add_right 5 hlt) (oT (Nat.lt_add_right 4 hlt) (oT (Nat.lt_add_right 3 hlt) (oT (Nat.lt_add_right 2 hlt) (oT (Nat.lt_add_right 1 hlt) (oT (Nat.lt_add_right 0 hlt) hp)))))))))))))))))))))))))))) ?_
  refine g_aload_n 231 dMod_init_231 rfl ?_
  refine g_sipush 232 768 dMod_init_232 rfl ?_
  refine g_newa 235 0 768 dMod_init_235 aw_int rfl rfl (fun _ => rfl) (fun _ _ h => h) (by decide) (by decide) (by decide) (by decide) (Nat.le_of_ble_eq_true rfl) (Nat.le_of_ble_eq_true rfl) ?_
  refine g_putr 237 10 28 dMod_init_237 ps_Mod_96 rfl rfl (oT (Nat.lt_add_right 28 hlt) (oT (Nat.lt_add_right 27 hlt) (oT (Nat.lt_add_right 26 hlt) (oT (Nat.lt_add_right 25 hlt) (oT (Nat.lt_add_right 24 hlt) (oT (Nat.lt_add_right 23 hlt) (oT (Nat.lt_add_right 22 hlt) (oT (Nat.lt_add_right 21 hlt) (oT (Nat.lt_add_right 20 hlt) (oT (Nat.lt_add_right 19 hlt) (oT (Nat.lt_add_right 18 hlt) (oT (Nat.lt_add_right 17 hlt) (oT (Nat.lt_add_right 16 hlt) (oT (Nat.lt_add_right 15 hlt) (oT (Nat.lt_add_right 14 hlt) (oT (Nat.lt_add_right 13 hlt) (oT (Nat.lt_add_right 12 hlt) (oT (Nat.lt_add_right 11 hlt) (oT (Nat.lt_add_right 10 hlt) (oT (Nat.lt_add_right 9 hlt) (oT (Nat.lt_add_right 8 hlt) (oT (Nat.lt_add_right 7 hlt) (oT (Nat.lt_add_right 6 hlt) (oT (Nat.lt_add_right 5 hlt) (oT (Nat.lt_add_right 4 hlt) (oT (Nat.lt_add_right 3 hlt) (oT (Nat.lt_add_right 2 hlt) (oT (Nat.lt_add_right 1 hlt) (oT (Nat.lt_add_right 0 hlt) hp))))))))))))))))))))))))))))) ?_
  refine g_aload_n 240 dMod_init_240 rfl ?_
  refine g_iconst 241 2 dMod_init_241 rfl ?_
  refine g_newa 242 0 2 dMod_init_242 aw_int rfl rfl (fun _ => rfl) (fun _ _ h => h) (by decide) (by decide) (by decide) (by decide) (Nat.le_of_ble_eq_true rfl) (Nat.le_of_ble_eq_true rfl) ?_
  refine g_putr 244 10 29 dMod_init_244 ps_Mod_99 rfl rfl (oT (Nat.lt_add_right 29 hlt) (oT (Nat.lt_add_right 28 hlt) (oT (Nat.lt_add_right 27 hlt) (oT (Nat.lt_add_right 26 hlt) (oT (Nat.lt_add_right 25 hlt) (oT (Nat.lt_add_right 24 hlt) (oT (Nat.lt_add_right 23 hlt) (oT (Nat.lt_add_right 22 hlt) (oT (Nat.lt_add_right 21 hlt) (oT (Nat.lt_add_right 20 hlt) (oT (Nat.lt_add_right 19 hlt) (oT (Nat.lt_add_right 18 hlt) (oT (Nat.lt_add_right 17 hlt) (oT (Nat.lt_add_right 16 hlt) (oT (Nat.lt_add_right 15 hlt) (oT (Nat.lt_add_right 14 hlt) (oT (Nat.lt_add_right 13 hlt) (oT (Nat.lt_add_right 12 hlt) (oT (Nat.lt_add_right 11 hlt) (oT (Nat.lt_add_right 10 hlt) (oT (Nat.lt_add_right 9 hlt) (oT (Nat.lt_add_right 8 hlt) (oT (Nat.lt_add_right 7 hlt) (oT (Nat.lt_add_right 6 hlt) (oT (Nat.lt_add_right 5 hlt) (oT (Nat.lt_add_right 4 hlt) (oT (Nat.lt_add_right 3 hlt) (oT (Nat.lt_add_right 2 hlt) (oT (Nat.lt_add_right 1 hlt) (oT (Nat.lt_add_right 0 hlt) hp)))))))))))))))))))))))))))))) ?_
  refine g_aload_n 247 dMod_init_247 rfl ?_
  refine g_bipush 248 80 dMod_init_248 rfl ?_
  refine g_newa 250 0 80 dMod_init_250 aw_int rfl rfl (fun _ => rfl) (fun _ _ h => h) (by decide) (by decide) (by decide) (by decide) (Nat.le_of_ble_eq_true rfl) (Nat.le_of_ble_eq_true rfl) ?_
  refine g_putr 252 10 30 dMod_init_252 ps_Mod_102 rfl rfl (oT (Nat.lt_add_right 30 hlt) (oT (Nat.lt_add_right 29 hlt) (oT (Nat.lt_add_right 28 hlt) (oT (Nat.lt_add_right 27 hlt) (oT (Nat.lt_add_right 26 hlt) (oT (Nat.lt_add_right 25 hlt) (oT (Nat.lt_add_right 24 hlt) (oT (Nat.lt_add_right 23 hlt) (oT (Nat.lt_add_right 22 hlt) (oT (Nat.lt_add_right 21 hlt) (oT (Nat.lt_add_right 20 hlt) (oT (Nat.lt_add_right 19 hlt) (oT (Nat.lt_add_right 18 hlt) (oT (Nat.lt_add_right 17 hlt) (oT (Nat.lt_add_right 16 hlt) (oT (Nat.lt_add_right 15 hlt) (oT (Nat.lt_add_right 14 hlt) (oT (Nat.lt_add_right 13 hlt) (oT (Nat.lt_add_right 12 hlt) (oT (Nat.lt_add_right 11 hlt) (oT (Nat.lt_add_right 10 hlt) (oT (Nat.lt_add_right 9 hlt) (oT (Nat.lt_add_right 8 hlt) (oT (Nat.lt_add_right 7 hlt) (oT (Nat.lt_add_right 6 hlt) (oT (Nat.lt_add_right 5 hlt) (oT (Nat.lt_add_right 4 hlt) (oT (Nat.lt_add_right 3 hlt) (oT (Nat.lt_add_right 2 hlt) (oT (Nat.lt_add_right 1 hlt) (oT (Nat.lt_add_right 0 hlt) hp))))))))))))))))))))))))))))))) ?_
  refine g_aload_n 255 dMod_init_255 rfl ?_
  refine g_bipush 256 80 dMod_init_256 rfl ?_
  refine g_newa 258 0 80 dMod_init_258 aw_int rfl rfl (fun _ => rfl) (fun _ _ h => h) (by decide) (by decide) (by decide) (by decide) (Nat.le_of_ble_eq_true rfl) (Nat.le_of_ble_eq_true rfl) ?_
  refine g_putr 260 10 31 dMod_init_260 ps_Mod_105 rfl rfl (oT (Nat.lt_add_right 31 hlt) (oT (Nat.lt_add_right 30 hlt) (oT (Nat.lt_add_right 29 hlt) (oT (Nat.lt_add_right 28 hlt) (oT (Nat.lt_add_right 27 hlt) (oT (Nat.lt_add_right 26 hlt) (oT (Nat.lt_add_right 25 hlt) (oT (Nat.lt_add_right 24 hlt) (oT (Nat.lt_add_right 23 hlt) (oT (Nat.lt_add_right 22 hlt) (oT (Nat.lt_add_right 21 hlt) (oT (Nat.lt_add_right 20 hlt) (oT (Nat.lt_add_right 19 hlt) (oT (Nat.lt_add_right 18 hlt) (oT (Nat.lt_add_right 17 hlt) (oT (Nat.lt_add_right 16 hlt) (oT (Nat.lt_add_right 15 hlt) (oT (Nat.lt_add_right 14 hlt) (oT (Nat.lt_add_right 13 hlt) (oT (Nat.lt_add_right 12 hlt) (oT (Nat.lt_add_right 11 hlt) (oT (Nat.lt_add_right 10 hlt) (oT (Nat.lt_add_right 9 hlt) (oT (Nat.lt_add_right 8 hlt) (oT (Nat.lt_add_right 7 hlt) (oT (Nat.lt_add_right 6 hlt) (oT (Nat.lt_add_right 5 hlt) (oT (Nat.lt_add_right 4 hlt) (oT (Nat.lt_add_right 3 hlt) (oT (Nat.lt_add_right 2 hlt) (oT (Nat.lt_add_right 1 hlt) (oT (Nat.lt_add_right 0 hlt) hp)))))))))))))))))))))))))))))))) ?_
  refine g_aload_n 263 dMod_init_263 rfl ?_
  refine g_iconst 264 2 dMod_init_264 rfl ?_
  refine g_newa 265 0 2 dMod_init_265 aw_int rfl rfl (fun _ => rfl) (fun _ _ h => h) (by decide) (by decide) (by decide) (by decide) (Nat.le_of_ble_eq_true rfl) (Nat.le_of_ble_eq_true rfl) ?_
  refine g_putr 267 10 32 dMod_init_267 ps_Mod_108 rfl rfl (oT (Nat.lt_add_right 32 hlt) (oT (Nat.lt_add_right 31 hlt) (oT (Nat.lt_add_right 30 hlt) (oT (Nat.lt_add_right 29 hlt) (oT (Nat.lt_add_right 28 hlt) (oT (Nat.lt_add_right 27 hlt) (oT (Nat.lt_add_right 26 hlt) (oT (Nat.lt_add_right 25 hlt) (oT (Nat.lt_add_right 24 hlt) (oT (Nat.lt_add_right 23 hlt) (oT (Nat.lt_add_right 22 hlt) (oT (Nat.lt_add_right 21 hlt) (oT (Nat.lt_add_right 20 hlt) (oT (Nat.lt_add_right 19 hlt) (oT (Nat.lt_add_right 18 hlt) (oT (Nat.lt_add_right 17 hlt) (oT (Nat.lt_add_right 16 hlt) (oT (Nat.lt_add_right 15 hlt) (oT (Nat.lt_add_right 14 hlt) (oT (Nat.lt_add_right 13 hlt) (oT (Nat.lt_add_right 12 hlt) (oT (Nat.lt_add_right 11 hlt) (oT (Nat.lt_add_right 10 hlt) (oT (Nat.lt_add_right 9 hlt) (oT (Nat.lt_add_right 8 hlt) (oT (Nat.lt_add_right 7 hlt) (oT (Nat.lt_add_right 6 hlt) (oT (Nat.lt_add_right 5 hlt) (oT (Nat.lt_add_right 4 hlt) (oT (Nat.lt_add_right 3 hlt) (oT (Nat.lt_add_right 2 hlt) (oT (Nat.lt_add_right 1 hlt) (oT (Nat.lt_add_right 0 hlt) hp))))))))))))))))))))))))))))))))) ?_
  refine g_aload_n 270 dMod_init_270 rfl ?_
  refine g_iconst 271 2 dMod_init_271 rfl ?_
  refine g_newa 272 0 2 dMod_init_272 aw_int rfl rfl (fun _ => rfl) (fun _ _ h => h) (by decide) (by decide) (by decide) (by decide) (Nat.le_of_ble_eq_true rfl) (Nat.le_of_ble_eq_true rfl) ?_
  refine g_putr 274 10 33 dMod_init_274 ps_Mod_111 rfl rfl (oT (Nat.lt_add_right 33 hlt) (oT (Nat.lt_add_right 32 hlt) (oT (Nat.lt_add_right 31 hlt) (oT (Nat.lt_add_right 30 hlt) (oT (Nat.lt_add_right 29 hlt) (oT (Nat.lt_add_right 28 hlt) (oT (Nat.lt_add_right 27 hlt) (oT (Nat.lt_add_right 26 hlt) (oT (Nat.lt_add_right 25 hlt) (oT (Nat.lt_add_right 24 hlt) (oT (Nat.lt_add_right 23 hlt) (oT (Nat.lt_add_right 22 hlt) (oT (Nat.lt_add_right 21 hlt) (oT (Nat.lt_add_right 20 hlt) (oT (Nat.lt_add_right 19 hlt) (oT (Nat.lt_add_right 18 hlt) (oT (Nat.lt_add_right 17 hlt) (oT (Nat.lt_add_right 16 hlt) (oT (Nat.lt_add_right 15 hlt) (oT (Nat.lt_add_right 14 hlt) (oT (Nat.lt_add_right 13 hlt) (oT (Nat.lt_add_right 12 hlt) (oT (Nat.lt_add_right 11 hlt) (oT (Nat.lt_add_right 10 hlt) (oT (Nat.lt_add_right 9 hlt) (oT (Nat.lt_add_right 8 hlt) (oT (Nat.lt_add_right 7 hlt) (oT (Nat.lt_add_right 6 hlt) (oT (Nat.lt_add_right 5 hlt) (oT (Nat.lt_add_right 4 hlt) (oT (Nat.lt_add_right 3 hlt) (oT (Nat.lt_add_right 2 hlt) (oT (Nat.lt_add_right 1 hlt) (oT (Nat.lt_add_right 0 hlt) hp)))))))))))))))))))))))))))))))))) ?_
  refine g_aload_n 277 dMod_init_277 rfl ?_
  refine g_iconst 278 2 dMod_init_278 rfl ?_
  refine g_newa 279 0 2 dMod_init_279 aw_int rfl rfl (fun _ => rfl) (fun _ _ h => h) (by decide) (by decide) (by decide) (by decide) (Nat.le_of_ble_eq_true rfl) (Nat.le_of_ble_eq_true rfl) ?_
  refine g_putr 281 10 34 dMod_init_281 ps_Mod_114 rfl rfl (oT (Nat.lt_add_right 34 hlt) (oT (Nat.lt_add_right 33 hlt) (oT (Nat.lt_add_right 32 hlt) (oT (Nat.lt_add_right 31 hlt) (oT (Nat.lt_add_right 30 hlt) (oT (Nat.lt_add_right 29 hlt) (oT (Nat.lt_add_right 28 hlt) (oT (Nat.lt_add_right 27 hlt) (oT (Nat.lt_add_right 26 hlt) (oT (Nat.lt_add_right 25 hlt) (oT (Nat.lt_add_right 24 hlt) (oT (Nat.lt_add_right 23 hlt) (oT (Nat.lt_add_right 22 hlt) (oT (Nat.lt_add_right 21 hlt) (oT (Nat.lt_add_right 20 hlt) (oT (Nat.lt_add_right 19 hlt) (oT (Nat.lt_add_right 18 hlt) (oT (Nat.lt_add_right 17 hlt) (oT (Nat.lt_add_right 16 hlt) (oT (Nat.lt_add_right 15 hlt) (oT (Nat.lt_add_right 14 hlt) (oT (Nat.lt_add_right 13 hlt) (oT (Nat.lt_add_right 12 hlt) (oT (Nat.lt_add_right 11 hlt) (oT (Nat.lt_add_right 10 hlt) (oT (Nat.lt_add_right 9 hlt) (oT (Nat.lt_add_right 8 hlt) (oT (Nat.lt_add_right 7 hlt) (oT (Nat.lt_add_right 6 hlt) (oT (Nat.lt_add_right 5 hlt) (oT (Nat.lt_add_right 4 hlt) (oT (Nat.lt_add_right 3 hlt) (oT (Nat.lt_add_right 2 hlt) (oT (Nat.lt_add_right 1 hlt) (oT (Nat.lt_add_right 0 hlt) hp))))))))))))))))))))))))))))))))))) ?_
  refine g_aload_n 284 dMod_init_284 rfl ?_
  refine g_bipush 285 6 dMod_init_285 rfl ?_
  refine g_newa 287 0 6 dMod_init_287 aw_int rfl rfl (fun _ => rfl) (fun _ _ h => h) (by decide) (by decide) (by decide) (by decide) (Nat.le_of_ble_eq_true rfl) (Nat.le_of_ble_eq_true rfl) ?_
  refine g_putr 289 10 36 dMod_init_289 ps_Mod_117 rfl rfl (oT (Nat.lt_add_right 35 hlt) (oT (Nat.lt_add_right 34 hlt) (oT (Nat.lt_add_right 33 hlt) (oT (Nat.lt_add_right 32 hlt) (oT (Nat.lt_add_right 31 hlt) (oT (Nat.lt_add_right 30 hlt) (oT (Nat.lt_add_right 29 hlt) (oT (Nat.lt_add_right 28 hlt) (oT (Nat.lt_add_right 27 hlt) (oT (Nat.lt_add_right 26 hlt) (oT (Nat.lt_add_right 25 hlt) (oT (Nat.lt_add_right 24 hlt) (oT (Nat.lt_add_right 23 hlt) (oT (Nat.lt_add_right 22 hlt) (oT (Nat.lt_add_right 21 hlt) (oT (Nat.lt_add_right 20 hlt) (oT (Nat.lt_add_right 19 hlt) (oT (Nat.lt_add_right 18 hlt) (oT (Nat.lt_add_right 17 hlt) (oT (Nat.lt_add_right 16 hlt) (oT (Nat.lt_add_right 15 hlt) (oT (Nat.lt_add_right 14 hlt) (oT (Nat.lt_add_right 13 hlt) (oT (Nat.lt_add_right 12 hlt) (oT (Nat.lt_add_right 11 hlt) (oT (Nat.lt_add_right 10 hlt) (oT (Nat.lt_add_right 9 hlt) (oT (Nat.lt_add_right 8 hlt) (oT (Nat.lt_add_right 7 hlt) (oT (Nat.lt_add_right 6 hlt) (oT (Nat.lt_add_right 5 hlt) (oT (Nat.lt_add_right 4 hlt) (oT (Nat.lt_add_right 3 hlt) (oT (Nat.lt_add_right 2 hlt) (oT (Nat.lt_add_right 1 hlt) (oT (Nat.lt_add_right 0 hlt) hp)))))))))))))))))))))))))))))))))))) ?_
  refine g_aload_n 292 dMod_init_292 rfl ?_
  refine g_bipush 293 6 dMod_init_293 rfl ?_
  refine g_newa 295 0 6 dMod_init_295 aw_int rfl rfl (fun _ => rfl) (fun _ _ h => h) (by decide) (by decide) (by decide) (by decide) (Nat.le_of_ble_eq_true rfl) (Nat.le_of_ble_eq_true rfl) ?_
  refine g_putr 297 10 37 dMod_init_297 ps_Mod_120 rfl rfl (oT (Nat.lt_add_right 36 hlt) (oT (Nat.lt_add_right 35 hlt) (oT (Nat.lt_add_right 34 hlt) (oT (Nat.lt_add_right 33 hlt) (oT (Nat.lt_add_right 32 hlt) (oT (Nat.lt_add_right 31 hlt) (oT (Nat.lt_add_right 30 hlt) (oT (Nat.lt_add_right 29 hlt) (oT (Nat.lt_add_right 28 hlt) (oT (Nat.lt_add_right 27 hlt) (oT (Nat.lt_add_right 26 hlt) (oT (Nat.lt_add_right 25 hlt) (oT (Nat.lt_add_right 24 hlt) (oT (Nat.lt_add_right 23 hlt) (oT (Nat.lt_add_right 22 hlt) (oT (Nat.lt_add_right 21 hlt) (oT (Nat.lt_add_right 20 hlt) (oT (Nat.lt_add_right 19 hlt) (oT (Nat.lt_add_right 18 hlt) (oT (Nat.lt_add_right 17 hlt) (oT (Nat.lt_add_right 16 hlt) (oT (Nat.lt_add_right 15 hlt) (oT (Nat.lt_add_right 14 hlt) (oT (Nat.lt_add_right 13 hlt) (oT (Nat.lt_add_right 12 hlt) (oT (Nat.lt_add_right 11 hlt) (oT (Nat.lt_add_right 10 hlt) (oT (Nat.lt_add_right 9 hlt) (oT (Nat.lt_add_right 8 hlt) (oT (Nat.lt_add_right 7 hlt) (oT (Nat.lt_add_right 6 hlt) (oT (Nat.lt_add_right 5 hlt) (oT (Nat.lt_add_right 4 hlt) (oT (Nat.lt_add_right 3 hlt) (oT (Nat.lt_add_right 2 hlt) (oT (Nat.lt_add_right 1 hlt) (oT (Nat.lt_add_right 0 hlt) hp))))))))))))))))))))))))))))))))))))) ?_
  refine g_aload_n 300 dMod_init_300 rfl ?_
  refine g_iconst 301 2 dMod_init_301 rfl ?_
  refine g_newa 302 2 2 dMod_init_302 aw_boolean rfl rfl (fun _ => rfl) (fun _ _ h => h) (by decide) (by decide) (by decide) (by decide) (Nat.le_of_ble_eq_true rfl) (Nat.le_of_ble_eq_true rfl) ?_
  refine g_putr 304 10 38 dMod_init_304 ps_Mod_123 rfl rfl (oT (Nat.lt_add_right 37 hlt) (oT (Nat.lt_add_right 36 hlt) (oT (Nat.lt_add_right 35 hlt) (oT (Nat.lt_add_right 34 hlt) (oT (Nat.lt_add_right 33 hlt) (oT (Nat.lt_add_right 32 hlt) (oT (Nat.lt_add_right 31 hlt) (oT (Nat.lt_add_right 30 hlt) (oT (Nat.lt_add_right 29 hlt) (oT (Nat.lt_add_right 28 hlt) (oT (Nat.lt_add_right 27 hlt) (oT (Nat.lt_add_right 26 hlt) (oT (Nat.lt_add_right 25 hlt) (oT (Nat.lt_add_right 24 hlt) (oT (Nat.lt_add_right 23 hlt) (oT (Nat.lt_add_right 22 hlt) (oT (Nat.lt_add_right 21 hlt) (oT (Nat.lt_add_right 20 hlt) (oT (Nat.lt_add_right 19 hlt) (oT (Nat.lt_add_right 18 hlt) (oT (Nat.lt_add_right 17 hlt) (oT (Nat.lt_add_right 16 hlt) (oT (Nat.lt_add_right 15 hlt) (oT (Nat.lt_add_right 14 hlt) (oT (Nat.lt_add_right 13 hlt) (oT (Nat.lt_add_right 12 hlt) (oT (Nat.lt_add_right 11 hlt) (oT (Nat.lt_add_right 10 hlt) (oT (Nat.lt_add_right 9 hlt) (oT (Nat.lt_add_right 8 hlt) (oT (Nat.lt_add_right 7 hlt) (oT (Nat.lt_add_right 6 hlt) (oT (Nat.lt_add_right 5 hlt) (oT (Nat.lt_add_right 4 hlt) (oT (Nat.lt_add_right 3 hlt) (oT (Nat.lt_add_right 2 hlt) (oT (Nat.lt_add_right 1 hlt) (oT (Nat.lt_add_right 0 hlt) hp)))))))))))))))))))))))))))))))))))))) ?_
  refine g_aload_n 307 dMod_init_307 rfl ?_
  refine g_iconst 308 2 dMod_init_308 rfl ?_
  refine g_newa 309 0 2 dMod_init_309 aw_int rfl rfl (fun _ => rfl) (fun _ _ h => h) (by decide) (by decide) (by decide) (by decide) (Nat.le_of_ble_eq_true rfl) (Nat.le_of_ble_eq_true rfl) ?_
  refine g_putr 311 10 39 dMod_init_311 ps_Mod_126 rfl rfl (oT (Nat.lt_add_right 38 hlt) (oT (Nat.lt_add_right 37 hlt) (oT (Nat.lt_add_right 36 hlt) (oT (Nat.lt_add_right 35 hlt) (oT (Nat.lt_add_right 34 hlt) (oT (Nat.lt_add_right 33 hlt) (oT (Nat.lt_add_right 32 hlt) (oT (Nat.lt_add_right 31 hlt) (oT (Nat.lt_add_right 30 hlt) (oT (Nat.lt_add_right 29 hlt) (oT (Nat.lt_add_right 28 hlt) (oT (Nat.lt_add_right 27 hlt) (oT (Nat.lt_add_right 26 hlt) (oT (Nat.lt_add_right 25 hlt) (oT (Nat.lt_add_right 24 hlt) (oT (Nat.lt_add_right 23 hlt) (oT (Nat.lt_add_right 22 hlt) (oT (Nat.lt_add_right 21 hlt) (oT (Nat.lt_add_right 20 hlt) (oT (Nat.lt_add_right 19 hlt) (oT (Nat.lt_add_right 18 hlt) (oT (Nat.lt_add_right 17 hlt) (oT (Nat.lt_add_right 16 hlt) (oT (Nat.lt_add_right 15 hlt) (oT (Nat.lt_add_right 14 hlt) (oT (Nat.lt_add_right 13 hlt) (oT (Nat.lt_add_right 12 hlt) (oT (Nat.lt_add_right 11 hlt) (oT (Nat.lt_add_right 10 hlt) (oT (Nat.lt_add_right 9 hlt) (oT (Nat.lt_add_right 8 hlt) (oT (Nat.lt_add_right 7 hlt) (oT (Nat.lt_add_right 6 hlt) (oT (Nat.lt_add_right 5 hlt) (oT (Nat.lt_add_right 4 hlt) (oT (Nat.lt_add_right 3 hlt) (oT (Nat.lt_add_right 2 hlt) (oT (Nat.lt_add_right 1 hlt) (oT (Nat.lt_add_right 0 hlt) hp))))))))))))))))))))))))))))))))))))))) ?_
  refine g_aload_n 314 dMod_init_314 rfl ?_
  refine g_iconst 315 2 dMod_init_315 rfl ?_
  refine g_newa 316 2 2 dMod_init_316 aw_boolean rfl rfl (fun _ => rfl) (fun _ _ h => h) (by decide) (by decide) (by decide) (by decide) (Nat.le_of_ble_eq_true rfl) (Nat.le_of_ble_eq_true rfl) ?_
  refine g_putr 318 10 40 dMod_init_318 ps_Mod_129 rfl rfl (oT (Nat.lt_add_right 39 hlt) (oT (Nat.lt_add_right 38 hlt) (oT (Nat.lt_add_right 37 hlt) (oT (Nat.lt_add_right 36 hlt) (oT (Nat.lt_add_right 35 hlt) (oT (Nat.lt_add_right 34 hlt) (oT (Nat.lt_add_right 33 hlt) (oT (Nat.lt_add_right 32 hlt) (oT (Nat.lt_add_right 31 hlt) (oT (Nat.lt_add_right 30 hlt) (oT (Nat.lt_add_right 29 hlt) (oT (Nat.lt_add_right 28 hlt) (oT (Nat.lt_add_right 27 hlt) (oT (Nat.lt_add_right 26 hlt) (oT (Nat.lt_add_right 25 hlt) (oT (Nat.lt_add_right 24 hlt) (oT (Nat.lt_add_right 23 hlt) (oT (Nat.lt_add_right 22 hlt) (oT (Nat.lt_add_right 21 hlt) (oT (Nat.lt_add_right 20 hlt) (oT (Nat.lt_add_right 19 hlt) (oT (Nat.lt_add_right 18 hlt) (oT (Nat.lt_add_right 17 hlt) (oT (Nat.lt_add_right 16 hlt) (oT (Nat.lt_add_right 15 hlt) (oT (Nat.lt_add_right 14 hlt) (oT (Nat.lt_add_right 13 hlt) (oT (Nat.lt_add_right 12 hlt) (oT (Nat.lt_add_right 11 hlt) (oT (Nat.lt_add_right 10 hlt) (oT (Nat.lt_add_right 9 hlt) (oT (Nat.lt_add_right 8 hlt) (oT (Nat.lt_add_right 7 hlt) (oT (Nat.lt_add_right 6 hlt) (oT (Nat.lt_add_right 5 hlt) (oT (Nat.lt_add_right 4 hlt) (oT (Nat.lt_add_right 3 hlt) (oT (Nat.lt_add_right 2 hlt) (oT (Nat.lt_add_right 1 hlt) (oT (Nat.lt_add_right 0 hlt) hp)))))))))))))))))))))))))))))))))))))))) ?_
  refine g_aload_n 321 dMod_init_321 rfl ?_
  refine g_iconst 322 2 dMod_init_322 rfl ?_
  refine g_newa 323 0 2 dMod_init_323 aw_int rfl rfl (fun _ => rfl) (fun _ _ h => h) (by decide) (by decide) (by decide) (by decide) (Nat.le_of_ble_eq_true rfl) (Nat.le_of_ble_eq_true rfl) ?_
  refine g_putr 325 10 41 dMod_init_325 ps_Mod_132 rfl rfl (oT (Nat.lt_add_right 40 hlt) (oT (Nat.lt_add_right 39 hlt) (oT (Nat.lt_add_right 38 hlt) (oT (Nat.lt_add_right 37 hlt) (oT (Nat.lt_add_right 36 hlt) (oT (Nat.lt_add_right 35 hlt) (oT (Nat.lt_add_right 34 hlt) (oT (Nat.lt_add_right 33 hlt) (oT (Nat.lt_add_right 32 hlt) (oT (Nat.lt_add_right 31 hlt) (oT (Nat.lt_add_right 30 hlt) (oT (Nat.lt_add_right 29 hlt) (oT (Nat.lt_add_right 28 hlt) (oT (Nat.lt_add_right 27 hlt) (oT (Nat.lt_add_right 26 hlt) (oT (Nat.lt_add_right 25 hlt) (oT (Nat.lt_add_right 24 hlt) (oT (Nat.lt_add_right 23 hlt) (oT (Nat.lt_add_right 22 hlt) (oT (Nat.lt_add_right 21 hlt) (oT (Nat.lt_add_right 20 hlt) (oT (Nat.lt_add_right 19 hlt) (oT (Nat.lt_add_right 18 hlt) (oT (Nat.lt_add_right 17 hlt) (oT (Nat.lt_add_right 16 hlt) (oT (Nat.lt_add_right 15 hlt) (oT (Nat.lt_add_right 14 hlt) (oT (Nat.lt_add_right 13 hlt) (oT (Nat.lt_add_right 12 hlt) (oT (Nat.lt_add_right 11 hlt) (oT (Nat.lt_add_right 10 hlt) (oT (Nat.lt_add_right 9 hlt) (oT (Nat.lt_add_right 8 hlt) (oT (Nat.lt_add_right 7 hlt) (oT (Nat.lt_add_right 6 hlt) (oT (Nat.lt_add_right 5 hlt) (oT (Nat.lt_add_right 4 hlt) (oT (Nat.lt_add_right 3 hlt) (oT (Nat.lt_add_right 2 hlt) (oT (Nat.lt_add_right 1 hlt) (oT (Nat.lt_add_right 0 hlt) hp))))))))))))))))))))))))))))))))))))))))) ?_
  refine g_aload_n 328 dMod_init_328 rfl ?_
  refine g_bipush 329 16 dMod_init_329 rfl ?_
  refine g_newa 331 0 16 dMod_init_331 aw_int rfl rfl (fun _ => rfl) (fun _ _ h => h) (by decide) (by decide) (by decide) (by decide) (Nat.le_of_ble_eq_true rfl) (Nat.le_of_ble_eq_true rfl) ?_
  refine g_putr 333 10 42 dMod_init_333 ps_Mod_135 rfl rfl (oT (Nat.lt_add_right 41 hlt) (oT (Nat.lt_add_right 40 hlt) (oT (Nat.lt_add_right 39 hlt) (oT (Nat.lt_add_right 38 hlt) (oT (Nat.lt_add_right 37 hlt) (oT (Nat.lt_add_right 36 hlt) (oT (Nat.lt_add_right 35 hlt) (oT (Nat.lt_add_right 34 hlt) (oT (Nat.lt_add_right 33 hlt) (oT (Nat.lt_add_right 32 hlt) (oT (Nat.lt_add_right 31 hlt) (oT (Nat.lt_add_right 30 hlt) (oT (Nat.lt_add_right 29 hlt) (oT (Nat.lt_add_right 28 hlt) (oT (Nat.lt_add_right 27 hlt) (oT (Nat.lt_add_right 26 hlt) (oT (Nat.lt_add_right 25 hlt) (oT (Nat.lt_add_right 24 hlt) (oT (Nat.lt_add_right 23 hlt) (oT (Nat.lt_add_right 22 hlt) (oT (Nat.lt_add_right 21 hlt) (oT (Nat.lt_add_right 20 hlt) (oT (Nat.lt_add_right 19 hlt) (oT (Nat.lt_add_right 18 hlt) (oT (Nat.lt_add_right 17 hlt) (oT (Nat.lt_add_right 16 hlt) (oT (Nat.lt_add_right 15 hlt) (oT (Nat.lt_add_right 14 hlt) (oT (Nat.lt_add_right 13 hlt) (oT (Nat.lt_add_right 12 hlt) (oT (Nat.lt_add_right 11 hlt) (oT (Nat.lt_add_right 10 hlt) (oT (Nat.lt_add_right 9 hlt) (oT (Nat.lt_add_right 8 hlt) (oT (Nat.lt_add_right 7 hlt) (oT (Nat.lt_add_right 6 hlt) (oT (Nat.lt_add_right 5 hlt) (oT (Nat.lt_add_right 4 hlt) (oT (Nat.lt_add_right 3 hlt) (oT (Nat.lt_add_right 2 hlt) (oT (Nat.lt_add_right 1 hlt) (oT (Nat.lt_add_right 0 hlt) hp)))))))))))))))))))))))))))))))))))))))))) ?_
  refine g_aload_n 336 dMod_init_336 rfl ?_
  refine g_bipush 337 16 dMod_init_337 rfl ?_
  refine g_newa 339 0 16 dMod_init_339 aw_int rfl rfl (fun _ => rfl) (fun _ _ h => h) (by decide) (by decide) (by decide) (by decide) (Nat.le_of_ble_eq_true rfl) (Nat.le_of_ble_eq_true rfl) ?_
  refine g_putr 341 10 43 dMod_init_341 ps_Mod_138 rfl rfl (oT (Nat.lt_add_right 42 hlt) (oT (Nat.lt_add_right 41 hlt) (oT (Nat.lt_add_right 40 hlt) (oT (Nat.lt_add_right 39 hlt) (oT (Nat.lt_add_right 38 hlt) (oT (Nat.lt_add_right 37 hlt) (oT (Nat.lt_add_right 36 hlt) (oT (Nat.lt_add_right 35 hlt) (oT (Nat.lt_add_right 34 hlt) (oT (Nat.lt_add_right 33 hlt) (oT (Nat.lt_add_right 32 hlt) (oT (Nat.lt_add_right 31 hlt) (oT (Nat.lt_add_right 30 hlt) (oT (Nat.lt_add_right 29 hlt) (oT (Nat.lt_add_right 28 hlt) (oT (Nat.lt_add_right 27 hlt) (oT (Nat.lt_add_right 26 hlt) (oT (Nat.lt_add_right 25 hlt) (oT (Nat.lt_add_right 24 hlt) (oT (Nat.lt_add_right 23 hlt) (oT (Nat.lt_add_right 22 hlt) (oT (Nat.lt_add_right 21 hlt) (oT (Nat.lt_add_right 20 hlt) (oT (Nat.lt_add_right 19 hlt) (oT (Nat.lt_add_right 18 hlt) (oT (Nat.lt_add_right 17 hlt) (oT (Nat.lt_add_right 16 hlt) (oT (Nat.lt_add_right 15 hlt) (oT (Nat.lt_add_right 14 hlt) (oT (Nat.lt_add_right 13 hlt) (oT (Nat.lt_add_right 12 hlt) (oT (Nat.lt_add_right 11 hlt) (oT (Nat.lt_add_right 10 hlt) (oT (Nat.lt_add_right 9 hlt) (oT (Nat.lt_add_right 8 hlt) (oT (Nat.lt_add_right 7 hlt) (oT (Nat.lt_add_right 6 hlt) (oT (Nat.lt_add_right 5 hlt) (oT (Nat.lt_add_right 4 hlt) (oT (Nat.lt_add_right 3 hlt) (oT (Nat.lt_add_right 2 hlt) (oT (Nat.lt_add_right 1 hlt) (oT (Nat.lt_add_right 0 hlt) hp))))))))))))))))))))))))))))))))))))))))))) ?_
  refine g_aload_n 344 dMod_init_344 rfl ?_
  refine g_iconst 345 4 dMod_init_345 rfl ?_
  refine g_newa 346 0 4 dMod_init_346 aw_int rfl rfl (fun _ => rfl) (fun _ _ h => h) (by decide) (by decide) (by decide) (by decide) (Nat.le_of_ble_eq_true rfl) (Nat.le_of_ble_eq_true rfl) ?_
  refine g_putr 348 10 44 dMod_init_348 ps_Mod_141 rfl rfl (oT (Nat.lt_add_right 43 hlt) (oT (Nat.lt_add_right 42 hlt) (oT (Nat.lt_add_right 41 hlt) (oT (Nat.lt_add_right 40 hlt) (oT (Nat.lt_add_right 39 hlt) (oT (Nat.lt_add_right 38 hlt) (oT (Nat.lt_add_right 37 hlt) (oT (Nat.lt_add_right 36 hlt) (oT (Nat.lt_add_right 35 hlt) (oT (Nat.lt_add_right 34 hlt) (oT (Nat.lt_add_right 33 hlt) (oT (Nat.lt_add_right 32 hlt) (oT (Nat.lt_add_right 31 hlt) (oT (Nat.lt_add_right 30 hlt) (oT (Nat.lt_add_right 29 hlt) (oT (Nat.lt_add_right 28 hlt) (oT (Nat.lt_add_right 27 hlt) (oT (Nat.lt_add_right 26 hlt) (oT (Nat.lt_add_right 25 hlt) (oT (Nat.lt_add_right 24 hlt) (oT (Nat.lt_add_right 23 hlt) (oT (Nat.lt_add_right 22 hlt) (oT (Nat.lt_add_right 21 hlt) (oT (Nat.lt_add_right 20 hlt) (oT (Nat.lt_add_right 19 hlt) (oT (Nat.lt_add_right 18 hlt) (oT (Nat.lt_add_right 17 hlt) (oT (Nat.lt_add_right 16 hlt) (oT (Nat.lt_add_right 15 hlt) (oT (Nat.lt_add_right 14 hlt) (oT (Nat.lt_add_right 13 hlt) (oT (Nat.lt_add_right 12 hlt) (oT (Nat.lt_add_right 11 hlt) (oT (Nat.lt_add_right 10 hlt) (oT (Nat.lt_add_right 9 hlt) (oT (Nat.lt_add_right 8 hlt) (oT (Nat.lt_add_right 7 hlt) (oT (Nat.lt_add_right 6 hlt) (oT (Nat.lt_add_right 5 hlt) (oT (Nat.lt_add_right 4 hlt) (oT (Nat.lt_add_right 3 hlt) (oT (Nat.lt_add_right 2 hlt) (oT (Nat.lt_add_right 1 hlt) (oT (Nat.lt_add_right 0 hlt) hp)))))))))))))))))))))))))))))))))))))))))))) ?_
  refine g_aload_n 351 dMod_init_351 rfl ?_
  refine g_iconst 352 4 dMod_init_352 rfl ?_
  refine g_newa 353 0 4 dMod_init_353 aw_int rfl rfl (fun _ => rfl) (fun _ _ h => h) (by decide) (by decide) (by decide) (by decide) (Nat.le_of_ble_eq_true rfl) (Nat.le_of_ble_eq_true rfl) ?_
  refine g_putr 355 10 45 dMod_init_355 ps_Mod_144 rfl rfl (oT (Nat.lt_add_right 44 hlt) (oT (Nat.lt_add_right 43 hlt) (oT (Nat.lt_add_right 42 hlt) (oT (Nat.lt_add_right 41 hlt) (oT (Nat.lt_add_right 40 hlt) (oT (Nat.lt_add_right 39 hlt) (oT (Nat.lt_add_right 38 hlt) (oT (Nat.lt_add_right 37 hlt) (oT (Nat.lt_add_right 36 hlt) (oT (Nat.lt_add_right 35 hlt) (oT (Nat.lt_add_right 34 hlt) (oT (Nat.lt_add_right 33 hlt) (oT (Nat.lt_add_right 32 hlt) (oT (Nat.lt_add_right 31 hlt) (oT (Nat.lt_add_right 30 hlt) (oT (Nat.lt_add_right 29 hlt) (oT (Nat.lt_add_right 28 hlt) (oT (Nat.lt_add_right 27 hlt) (oT (Nat.lt_add_right 26 hlt) (oT (Nat.lt_add_right 25 hlt) (oT (Nat.lt_add_right 24 hlt) (oT (Nat.lt_add_right 23 hlt) (oT (Nat.lt_add_right 22 hlt) (oT (Nat.lt_add_right 21 hlt) (oT (Nat.lt_add_right 20 hlt) (oT (Nat.lt_add_right 19 hlt) (oT (Nat.lt_add_right 18 hlt) (oT (Nat.lt_add_right 17 hlt) (oT (Nat.lt_add_right 16 hlt) (oT (Nat.lt_add_right 15 hlt) (oT (Nat.lt_add_right 14 hlt) (oT (Nat.lt_add_right 13 hlt) (oT (Nat.lt_add_right 12 hlt) (oT (Nat.lt_add_right 11 hlt) (oT (Nat.lt_add_right 10 hlt) (oT (Nat.lt_add_right 9 hlt) (oT (Nat.lt_add_right 8 hlt) (oT (Nat.lt_add_right 7 hlt) (oT (Nat.lt_add_right 6 hlt) (oT (Nat.lt_add_right 5 hlt) (oT (Nat.lt_add_right 4 hlt) (oT (Nat.lt_add_right 3 hlt) (oT (Nat.lt_add_right 2 hlt) (oT (Nat.lt_add_right 1 hlt) (oT (Nat.lt_add_right 0 hlt) hp))))))))))))))))))))))))))))))))))))))))))))) ?_
  refine g_aload_n 358 dMod_init_358 rfl ?_
  refine g_bipush 359 24 dMod_init_359 rfl ?_
  refine g_newa 361 0 24 dMod_init_361 aw_int rfl rfl (fun _ => rfl) (fun _ _ h => h) (by decide) (by decide) (by decide) (by decide) (Nat.le_of_ble_eq_true rfl) (Nat.le_of_ble_eq_true rfl) ?_
  refine g_putr 363 10 46 dMod_init_363 ps_Mod_147 rfl rfl (oT (Nat.lt_add_right 45 hlt) (oT (Nat.lt_add_right 44 hlt) (oT (Nat.lt_add_right 43 hlt) (oT (Nat.lt_add_right 42 hlt) (oT (Nat.lt_add_right 41 hlt) (oT (Nat.lt_add_right 40 hlt) (oT (Nat.lt_add_right 39 hlt) (oT (Nat.lt_add_right 38 hlt) (oT (Nat.lt_add_right 37 hlt) (oT (Nat.lt_add_right 36 hlt) (oT (Nat.lt_add_right 35 hlt) (oT (Nat.lt_add_right 34 hlt) (oT (Nat.lt_add_right 33 hlt) (oT (Nat.lt_add_right 32 hlt) (oT (Nat.lt_add_right 31 hlt) (oT (Nat.lt_add_right 30 hlt) (oT (Nat.lt_add_right 29 hlt) (oT (Nat.lt_add_right 28 hlt) (oT (Nat.lt_add_right 27 hlt) (oT (Nat.lt_add_right 26 hlt) (oT (Nat.lt_add_right 25 hlt) (oT (Nat.lt_add_right 24 hlt) (oT (Nat.lt_add_right 23 hlt) (oT (Nat.lt_add_right 22 hlt) (oT (Nat.lt_add_right 21 hlt) (oT (Nat.lt_add_right 20 hlt) (oT (Nat.lt_add_right 19 hlt) (oT (Nat.lt_add_right 18 hlt) (oT (Nat.lt_add_right 17 hlt) (oT (Nat.lt_add_right 16 hlt) (oT (Nat.lt_add_right 15 hlt) (oT (Nat.lt_add_right 14 hlt) (oT (Nat.lt_add_right 13 hlt) (oT (Nat.lt_add_right 12 hlt) (oT (Nat.lt_add_right 11 hlt) (oT (Nat.lt_add_right 10 hlt) (oT (Nat.lt_add_right 9 hlt) (oT (Nat.lt_add_right 8 hlt) (oT (Nat.lt_add_right 7 hlt) (oT (Nat.lt_add_right 6 hlt) (oT (Nat.lt_add_right 5 hlt) (oT (Nat.lt_add_right 4 hlt) (oT (Nat.lt_add_right 3 hlt) (oT (Nat.lt_add_right 2 hlt) (oT (Nat.lt_add_right 1 hlt) (oT (Nat.lt_add_right 0 hlt) hp)))))))))))))))))))))))))))))))))))))))))))))) ?_
  refine g_aload_n 366 dMod_init_366 rfl ?_
  refine g_bipush 367 24 dMod_init_367 rfl ?_
  refine g_newa 369 0 24 dMod_init_369 aw_int rfl rfl (fun _ => rfl) (fun _ _ h => h) (by decide) (by decide) (by decide) (by decide) (Nat.le_of_ble_eq_true rfl) (Nat.le_of_ble_eq_true rfl) ?_
  refine g_putr 371 10 47 dMod_init_371 ps_Mod_150 rfl rfl (oT (Nat.lt_add_right 46 hlt) (oT (Nat.lt_add_right 45 hlt) (oT (Nat.lt_add_right 44 hlt) (oT (Nat.lt_add_right 43 hlt) (oT (Nat.lt_add_right 42 hlt) (oT (Nat.lt_add_right 41 hlt) (oT (Nat.lt_add_right 40 hlt) (oT (Nat.lt_add_right 39 hlt) (oT (Nat.lt_add_right 38 hlt) (oT (Nat.lt_add_right 37 hlt) (oT (Nat.lt_add_right 36 hlt) (oT (Nat.lt_add_right 35 hlt) (oT (Nat.lt_add_right 34 hlt) (oT (Nat.lt_add_right 33 hlt) (oT (Nat.lt_add_right 32 hlt) (oT (Nat.lt_add_right 31 hlt) (oT (Nat.lt_add_right 30 hlt) (oT (Nat.lt_add_right 29 hlt) (oT (Nat.lt_add_right 28 hlt) (oT (Nat.lt_add_right 27 hlt) (oT (Nat.lt_add_right 26 hlt) (oT (Nat.lt_add_right 25 hlt) (oT (Nat.lt_add_right 24 hlt) (oT (Nat.lt_add_right 23 hlt) (oT (Nat.lt_add_right 22 hlt) (oT (Nat.lt_add_right 21 hlt) (oT (Nat.lt_add_right 20 hlt) (oT (Nat.lt_add_right 19 hlt) (oT (Nat.lt_add_right 18 hlt) (oT (Nat.lt_add_right 17 hlt) (oT (Nat.lt_add_right 16 hlt) (oT (Nat.lt_add_right 15 hlt) (oT (Nat.lt_add_right 14 hlt) (oT (Nat.lt_add_right 13 hlt) (oT (Nat.lt_add_right 12 hlt) (oT (Nat.lt_add_right 11 hlt) (oT (Nat.lt_add_right 10 hlt) (oT (Nat.lt_add_right 9 hlt) (oT (Nat.lt_add_right 8 hlt) (oT (Nat.lt_add_right 7 hlt) (oT (Nat.lt_add_right 6 hlt) (oT (Nat.lt_add_right 5 hlt) (oT (Nat.lt_add_right 4 hlt) (oT (Nat.lt_add_right 3 hlt) (oT (Nat.lt_add_right 2 hlt) (oT (Nat.lt_add_right 1 hlt) (oT (Nat.lt_add_right 0 hlt) hp))))))))))))))))))))))))))))))))))))))))))))))) ?_
  refine g_aload_n 374 dMod_init_374 rfl ?_
  refine g_iconst 375 2 dMod_init_375 rfl ?_
  refine g_newa 376 0 2 dMod_init_376 aw_int rfl rfl (fun _ => rfl) (fun _ _ h => h) (by decide) (by decide) (by decide) (by decide) (Nat.le_of_ble_eq_true rfl) (Nat.le_of_ble_eq_true rfl) ?_
  refine g_putr 378 10 48 dMod_init_378 ps_Mod_153 rfl rfl (oT (Nat.lt_add_right 47 hlt) (oT (Nat.lt_add_right 46 hlt) (oT (Nat.lt_add_right 45 hlt) (oT (Nat.lt_add_right 44 hlt) (oT (Nat.lt_add_right 43 hlt) (oT (Nat.lt_add_right 42 hlt) (oT (Nat.lt_add_right 41 hlt) (oT (Nat.lt_add_right 40 hlt) (oT (Nat.lt_add_right 39 hlt) (oT (Nat.lt_add_right 38 hlt) (oT (Nat.lt_add_right 37 hlt) (oT (Nat.lt_add_right 36 hlt) (oT (Nat.lt_add_right 35 hlt) (oT (Nat.lt_add_right 34 hlt) (oT (Nat.lt_add_right 33 hlt) (oT (Nat.lt_add_right 32 hlt) (oT (Nat.lt_add_right 31 hlt) (oT (Nat.lt_add_right 30 hlt) (oT (Nat.lt_add_right 29 hlt) (oT (Nat.lt_add_right 28 hlt) (oT (Nat.lt_add_right 27 hlt) (oT (Nat.lt_add_right 26 hlt) (oT (Nat.lt_add_right 25 hlt) (oT (Nat.lt_add_right 24 hlt) (oT (Nat.lt_add_right 23 hlt) (oT (Nat.lt_add_right 22 hlt) (oT (Nat.lt_add_right 21 hlt) (oT (Nat.lt_add_right 20 hlt) (oT (Nat.lt_add_right 19 hlt) (oT (Nat.lt_add_right 18 hlt) (oT (Nat.lt_add_right 17 hlt) (oT (Nat.lt_add_right 16 hlt) (oT (Nat.lt_add_right 15 hlt) (oT (Nat.lt_add_right 14 hlt) (oT (Nat.lt_add_right 13 hlt) (oT (Nat.lt_add_right 12 hlt) (oT (Nat.lt_add_right 11 hlt) (oT (Nat.lt_add_right 10 hlt) (oT (Nat.lt_add_right 9 hlt) (oT (Nat.lt_add_right 8 hlt) (oT (Nat.lt_add_right 7 hlt) (oT (Nat.lt_add_right 6 hlt) (oT (Nat.lt_add_right 5 hlt) (oT (Nat.lt_add_right 4 hlt) (oT (Nat.lt_add_right 3 hlt) (oT (Nat.lt_add_right 2 hlt) (oT (Nat.lt_add_right 1 hlt) (oT (Nat.lt_add_right 0 hlt) hp)))))))))))))))))))))))))))))))))))))))))))))))) ?_
  refine g_aload_n 381 dMod_init_381 rfl ?_
  refine g_bipush 382 12 dMod_init_382 rfl ?_
  refine g_newa 384 0 12 dMod_init_384 aw_int rfl rfl (fun _ => rfl) (fun _ _ h => h) (by decide) (by decide) (by decide) (by decide) (Nat.le_of_ble_eq_true rfl) (Nat.le_of_ble_eq_true rfl) ?_
  refine g_putr 386 10 49 dMod_init_386 ps_Mod_156 rfl rfl (oT (Nat.lt_add_right 48 hlt) (oT (Nat.lt_add_right 47 hlt) (oT (Nat.lt_add_right 46 hlt) (oT (Nat.lt_add_right 45 hlt) (oT (Nat.lt_add_right 44 hlt) (oT (Nat.lt_add_right 43 hlt) (oT (Nat.lt_add_right 42 hlt) (oT (Nat.lt_add_right 41 hlt) (oT (Nat.lt_add_right 40 hlt) (oT (Nat.lt_add_right 39 hlt) (oT (Nat.lt_add_right 38 hlt) (oT (Nat.lt_add_right 37 hlt) (oT (Nat.lt_add_right 36 hlt) (oT (Nat.lt_add_right 35 hlt) (oT (Nat.lt_add_right 34 hlt) (oT (Nat.lt_add_right 33 hlt) (oT (Nat.lt_add_right 32 hlt) (oT (Nat.lt_add_right 31 hlt) (oT (Nat.lt_add_right 30 hlt) (oT (Nat.lt_add_right 29 hlt) (oT (Nat.lt_add_right 28 hlt) (oT (Nat.lt_add_right 27 hlt) (oT (Nat.lt_add_right 26 hlt) (oT (Nat.lt_add_right 25 hlt) (oT (Nat.lt_add_right 24 hlt) (oT (Nat.lt_add_right 23 hlt) (oT (Nat.lt_add_right 22 hlt) (oT (Nat.lt_add_right 21 hlt) (oT (Nat.lt_add_right 20 hlt) (oT (Nat.lt_add_right 19 hlt) (oT (Nat.lt_add_right 18 hlt) (oT (Nat.lt_add_right 17 hlt) (oT (Nat.lt_add_right 16 hlt) (oT (Nat.lt_add_right 15 hlt) (oT (Nat.lt_add_right 14 hlt) (oT (Nat.lt_add_right 13 hlt) (oT (Nat.lt_add_right 12 hlt) (oT (Nat.lt_add_right 11 hlt) (oT (Nat.lt_add_right 10 hlt) (oT (Nat.lt_add_right 9 hlt) (oT (Nat.lt_add_right 8 hlt) (oT (Nat.lt_add_right 7 hlt) (oT (Nat.lt_add_right 6 hlt) (oT (Nat.lt_add_right 5 hlt) (oT (Nat.lt_add_right 4 hlt) (oT (Nat.lt_add_right 3 hlt) (oT (Nat.lt_add_right 2 hlt) (oT (Nat.lt_add_right 1 hlt) (oT (Nat.lt_add_right 0 hlt) hp))))))))))))))))))))))))))))))))))))))))))))))))) ?_
  refine g_aload_n 389 dMod_init_389 rfl ?_
  refine g_bipush 390 12 dMod_init_390 rfl ?_
  refine g_newa 392 0 12 dMod_init_392 aw_int rfl rfl (fun _ => rfl) (fun _ _ h => h) (by decide) (by decide) (by decide) (by decide) (Nat.le_of_ble_eq_true rfl) (Nat.le_of_ble_eq_true rfl) ?_
  refine g_putr 394 10 50 dMod_init_394 ps_Mod_159 rfl rfl (oT (Nat.lt_add_right 49 hlt) (oT (Nat.lt_add_right 48 hlt) (oT (Nat.lt_add_right 47 hlt) (oT (Nat.lt_add_right 46 hlt) (oT (Nat.lt_add_right 45 hlt) (oT (Nat.lt_add_right 44 hlt) (oT (Nat.lt_add_right 43 hlt) (oT (Nat.lt_add_right 42 hlt) (oT (Nat.lt_add_right 41 hlt) (oT (Nat.lt_add_right 40 hlt) (oT (Nat.lt_add_right 39 hlt) (oT (Nat.lt_add_right 38 hlt) (oT (Nat.lt_add_right 37 hlt) (oT (Nat.lt_add_right 36 hlt) (oT (Nat.lt_add_right 35 hlt) (oT (Nat.lt_add_right 34 hlt) (oT (Nat.lt_add_right 33 hlt) (oT (Nat.lt_add_right 32 hlt) (oT (Nat.lt_add_right 31 hlt) (oT (Nat.lt_add_right 30 hlt) (oT (Nat.lt_add_right 29 hlt) (oT (Nat.lt_add_right 28 hlt) (oT (Nat.lt_add_right 27 hlt) (oT (Nat.lt_add_right 26 hlt) (oT (Nat.lt_add_right 25 hlt) (oT (Nat.lt_add_right 24 hlt) (oT (Nat.lt_add_right 23 hlt) (oT (Nat.lt_add_right 22 hlt) (oT (Nat.lt_add_right 21 hlt) (oT (Nat.lt_add_right 20 hlt) (oT (Nat.lt_add_right 19 hlt) (oT (Nat.lt_add_right 18 hlt) (oT (Nat.lt_add_right 17 hlt) (oT (Nat.lt_add_right 16 hlt) (oT (Nat.lt_add_right 15 hlt) (oT (Nat.lt_add_right 14 hlt) (oT (Nat.lt_add_right 13 hlt) (oT (Nat.lt_add_right 12 hlt) (oT (Nat.lt_add_right 11 hlt) (oT (Nat.lt_add_right 10 hlt) (oT (Nat.lt_add_right 9 hlt) (oT (Nat.lt_add_right 8 hlt) (oT (Nat.lt_add_right 7 hlt) (oT (Nat.lt_add_right 6 hlt) (oT (Nat.lt_add_right 5 hlt) (oT (Nat.lt_add_right 4 hlt) (oT (Nat.lt_add_right 3 hlt) (oT (Nat.lt_add_right 2 hlt) (oT (Nat.lt_add_right 1 hlt) (oT (Nat.lt_add_right 0 hlt) hp)))))))))))))))))))))))))))))))))))))))))))))))))) ?_
  refine g_aload_n 397 dMod_init_397 rfl ?_
  refine g_bipush 398 12 dMod_init_398 rfl ?_
  refine g_newa 400 2 12 dMod_init_400 aw_boolean rfl rfl (fun _ => rfl) (fun _ _ h => h) (by decide) (by decide) (by decide) (by decide) (Nat.le_of_ble_eq_true rfl) (Nat.le_of_ble_eq_true rfl) ?_
  refine g_putr 402 10 51 dMod_init_402 ps_Mod_162 rfl rfl (oT (Nat.lt_add_right 50 hlt) (oT (Nat.lt_add_right 49 hlt) (oT (Nat.lt_add_right 48 hlt) (oT (Nat.lt_add_right 47 hlt) (oT (Nat.lt_add_right 46 hlt) (oT (Nat.lt_add_right 45 hlt) (oT (Nat.lt_add_right 44 hlt) (oT (Nat.lt_add_right 43 hlt) (oT (Nat.lt_add_right 42 hlt) (oT (Nat.lt_add_right 41 hlt) (oT (Nat.lt_add_right 40 hlt) (oT (Nat.lt_add_right 39 hlt) (oT (Nat.lt_add_right 38 hlt) (oT (Nat.lt_add_right 37 hlt) (oT (Nat.lt_add_right 36 hlt) (oT (Nat.lt_add_right 35 hlt) (oT (Nat.lt_add_right 34 hlt) (oT (Nat.lt_add_right 33 hlt) (oT (Nat.lt_add_right 32 hlt) (oT (Nat.lt_add_right 31 hlt) (oT (Nat.lt_add_right 30 hlt) (oT (Nat.lt_add_right 29 hlt) (oT (Nat.lt_add_right 28 hlt) (oT (Nat.lt_add_right 27 hlt) (oT (Nat.lt_add_right 26 hlt) (oT (Nat.lt_add_right 25 hlt) (oT (Nat.lt_add_right 24 hlt) (oT (Nat.lt_add_right 23 hlt) (oT (Nat.lt_add_right 22 hlt) (oT (Nat.lt_add_right 21 hlt) (oT (Nat.lt_add_right 20 hlt) (oT (Nat.lt_add_right 19 hlt) (oT (Nat.lt_add_right 18 hlt) (oT (Nat.lt_add_right 17 hlt) (oT (Nat.lt_add_right 16 hlt) (oT (Nat.lt_add_right 15 hlt) (oT (Nat.lt_add_right 14 hlt) (oT (Nat.lt_add_right 13 hlt) (oT (Nat.lt_add_right 12 hlt) (oT (Nat.lt_add_right 11 hlt) (oT (Nat.lt_add_right 10 hlt) (oT (Nat.lt_add_right 9 hlt) (oT (Nat.lt_add_right 8 hlt) (oT (Nat.lt_add_right 7 hlt) (oT (Nat.lt_add_right 6 hlt) (oT (Nat.lt_add_right 5 hlt) (oT (Nat.lt_add_right 4 hlt) (oT (Nat.lt_add_right 3 hlt) (oT (Nat.lt_add_right 2 hlt) (oT (Nat.lt_add_right 1 hlt) (oT (Nat.lt_add_right 0 hlt) hp))))))))))))))))))))))))))))))))))))))))))))))))))) ?_
  refine g_aload_n 405 dMod_init_405 rfl ?_
  refine g_bipush 406 8 dMod_init_406 rfl ?_
  refine g_newa 408 0 8 dMod_init_408 aw_int rfl rfl (fun _ => rfl) (fun _ _ h => h) (by decide) (by decide) (by decide) (by decide) (Nat.le_of_ble_eq_true rfl) (Nat.le_of_ble_eq_true rfl) ?_
  refine g_putr 410 10 53 dMod_init_410 ps_Mod_165 rfl rfl (oT (Nat.lt_add_right 51 hlt) (oT (Nat.lt_add_right 50 hlt) (oT (Nat.lt_add_right 49 hlt) (oT (Nat.lt_add_right 48 hlt) (oT (Nat.lt_add_right 47 hlt) (oT (Nat.lt_add_right 46 hlt) (oT (Nat.lt_add_right 45 hlt) (oT (Nat.lt_add_right 44 hlt) (oT (Nat.lt_add_right 43 hlt) (oT (Nat.lt_add_right 42 hlt) (oT (Nat.lt_add_right 41 hlt) (oT (Nat.lt_add_right 40 hlt) (oT (Nat.lt_add_right 39 hlt) (oT (Nat.lt_add_right 38 hlt) (oT (Nat.lt_add_right 37 hlt) (oT (Nat.lt_add_right 36 hlt) (oT (Nat.lt_add_right 35 hlt) (oT (Nat.lt_add_right 34 hlt) (oT (Nat.lt_add_right 33 hlt) (oT (Nat.lt_add_right 32 hlt) (oT (Nat.lt_add_right 31 hlt) (oT (Nat.lt_add_right 30 hlt) (oT (Nat.lt_add_right 29 hlt) (oT (Nat.lt_add_right 28 hlt) (oT (Nat.lt_add_right 27 hlt) (oT (Nat.lt_add_right 26 hlt) (oT (Nat.lt_add_right 25 hlt) (oT (Nat.lt_add_right 24 hlt) (oT (Nat.lt_add_right 23 hlt) (oT (Nat.lt_add_right 22 hlt) (oT (Nat.lt_add_right 21 hlt) (oT (Nat.lt_add_right 20 hlt) (oT (Nat.lt_add_right 19 hlt) (oT (Nat.lt_add_right 18 hlt) (oT (Nat.lt_add_right 17 hlt) (oT (Nat.lt_add_right 16 hlt) (oT (Nat.lt_add_right 15 hlt) (oT (Nat.lt_add_right 14 hlt) (oT (Nat.lt_add_right 13 hlt) (oT (Nat.lt_add_right 12 hlt) (oT (Nat.lt_add_right 11 hlt) (oT (Nat.lt_add_right 10 hlt) (oT (Nat.lt_add_right 9 hlt) (oT (Nat.lt_add_right 8 hlt) (oT (Nat.lt_add_right 7 hlt) (oT (Nat.lt_add_right 6 hlt) (oT (Nat.lt_add_right 5 hlt) (oT (Nat.lt_add_right 4 hlt) (oT (Nat.lt_add_right 3 hlt) (oT (Nat.lt_add_right 2 hlt) (oT (Nat.lt_add_right 1 hlt) (oT (Nat.lt_add_right 0 hlt) hp)))))))))))))))))))))))))))))))))))))))))))))))))))) ?_
  refine g_aload_n 413 dMod_init_413 rfl ?_
  refine g_bipush 414 8 dMod_init_414 rfl ?_
  refine g_newa 416 0 8 dMod_init_416 aw_int rfl rfl (fun _ => rfl) (fun _ _ h => h) (by decide) (by decide) (by decide) (by decide) (Nat.le_of_ble_eq_true rfl) (Nat.le_of_ble_eq_true rfl) ?_
  refine g_putr 418 10 54 dMod_init_418 ps_Mod_168 rfl rfl (oT (Nat.lt_add_right 52 hlt) (oT (Nat.lt_add_right 51 hlt) (oT (Nat.lt_add_right 50 hlt) (oT (Nat.lt_add_right 49 hlt) (oT (Nat.lt_add_right 48 hlt) (oT (Nat.lt_add_right 47 hlt) (oT (Nat.lt_add_right 46 hlt) (oT (Nat.lt_add_right 45 hlt) (oT (Nat.lt_add_right 44 hlt) (oT (Nat.lt_add_right 43 hlt) (oT (Nat.lt_add_right 42 hlt) (oT (Nat.lt_add_right 41 hlt) (oT (Nat.lt_add_right 40 hlt) (oT (Nat.lt_add_right 39 hlt) (oT (Nat.lt_add_right 38 hlt) (oT (Nat.lt_add_right 37 hlt) (oT (Nat.lt_add_right 36 hlt) (oT (Nat.lt_add_right 35 hlt) (oT (Nat.lt_add_right 34 hlt) (oT (Nat.lt_add_right 33 hlt) (oT (Nat.lt_add_right 32 hlt) (oT (Nat.lt_add_right 31 hlt) (oT (Nat.lt_add_right 30 hlt) (oT (Nat.lt_add_right 29 hlt) (oT (Nat.lt_add_right 28 hlt) (oT (Nat.lt_add_right 27 hlt) (oT (Nat.lt_add_right 26 hlt) (oT (Nat.lt_add_right 25 hlt) (oT (Nat.lt_add_right 24 hlt) (oT (Nat.lt_add_right 23 hlt) (oT (Nat.lt_add_right 22 hlt) (oT (Nat.lt_add_right 21 hlt) (oT (Nat.lt_add_right 20 hlt) (oT (Nat.lt_add_right 19 hlt) (oT (Nat.lt_add_right 18 hlt) (oT (Nat.lt_add_right 17 hlt) (oT (Nat.lt_add_right 16 hlt) (oT (Nat.lt_add_right 15 hlt) (oT (Nat.lt_add_right 14 hlt) (oT (Nat.lt_add_right 13 hlt) (oT (Nat.lt_add_right 12 hlt) (oT (Nat.lt_add_right 11 hlt) (oT (Nat.lt_add_right 10 hlt) (oT (Nat.lt_add_right 9 hlt) (oT (Nat.lt_add_right 8 hlt) (oT (Nat.lt_add_right 7 hlt) (oT (Nat.lt_add_right 6 hlt) (oT (Nat.lt_add_right 5 hlt) (oT (Nat.lt_add_right 4 hlt) (oT (Nat.lt_add_right 3 hlt) (oT (Nat.lt_add_right 2 hlt) (oT (Nat.lt_add_right 1 hlt) (oT (Nat.lt_add_right 0 hlt) hp))))))))))))))))))))))))))))))))))))))))))))))))))))) ?_
  refine g_iconst 421 0 dMod_init_421 rfl ?_
  refine g_istore_n 422 dMod_init_422 (by decide) rfl ?_
  exact g_Mod_0 (N := mkMod6 M t) (mod_T hlt hp) (mod_R_force hlt) (mod_R_told hlt) (mod_R_lastData hlt) (mod_R_maximum hlt) mod_T_force mod_T_told mod_T_lastData mod_T_maximum ⟨rfl, rfl⟩
