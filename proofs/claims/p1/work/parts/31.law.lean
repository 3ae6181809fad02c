theorem dLaw_law_0 : decode uLaw.2.1 0 = .ok (.new 7, 3) := by decide +kernel
theorem dLaw_law_3 : decode uLaw.2.1 3 = .ok (.dup, 1) := by decide +kernel
theorem dLaw_law_4 : decode uLaw.2.1 4 = .ok (.invokespecial 9, 3) := by decide +kernel
theorem dLaw_law_7 : decode uLaw.2.1 7 = .ok (.astore_n 1, 1) := by decide +kernel
theorem dLaw_law_8 : decode uLaw.2.1 8 = .ok (.new 10, 3) := by decide +kernel
theorem dLaw_law_11 : decode uLaw.2.1 11 = .ok (.dup, 1) := by decide +kernel
theorem dLaw_law_12 : decode uLaw.2.1 12 = .ok (.invokespecial 12, 3) := by decide +kernel
theorem dLaw_law_15 : decode uLaw.2.1 15 = .ok (.astore_n 2, 1) := by decide +kernel
theorem dLaw_law_16 : decode uLaw.2.1 16 = .ok (.iconst 0, 1) := by decide +kernel
theorem dLaw_law_17 : decode uLaw.2.1 17 = .ok (.istore_n 3, 1) := by decide +kernel
theorem dLaw_law_18 : decode uLaw.2.1 18 = .ok (.iload_n 3, 1) := by decide +kernel
theorem dLaw_law_19 : decode uLaw.2.1 19 = .ok (.aload_n 0, 1) := by decide +kernel
theorem dLaw_law_20 : decode uLaw.2.1 20 = .ok (.arraylength, 1) := by decide +kernel
theorem dLaw_law_21 : decode uLaw.2.1 21 = .ok (.bipush 7, 2) := by decide +kernel
theorem dLaw_law_23 : decode uLaw.2.1 23 = .ok (.isub, 1) := by decide +kernel
theorem dLaw_law_24 : decode uLaw.2.1 24 = .ok (.if_icmp .gt 976, 3) := by decide +kernel
theorem dLaw_law_27 : decode uLaw.2.1 27 = .ok (.aload_n 0, 1) := by decide +kernel
theorem dLaw_law_28 : decode uLaw.2.1 28 = .ok (.iload_n 3, 1) := by decide +kernel
theorem dLaw_law_29 : decode uLaw.2.1 29 = .ok (.iaload, 1) := by decide +kernel
theorem dLaw_law_30 : decode uLaw.2.1 30 = .ok (.bipush 31, 2) := by decide +kernel
theorem dLaw_law_32 : decode uLaw.2.1 32 = .ok (.iand, 1) := by decide +kernel
theorem dLaw_law_33 : decode uLaw.2.1 33 = .ok (.tableswitch 961 0 16 #[83, 152, 191, 240, 351, 384, 428, 471, 514, 537, 616, 659, 692, 751, 810, 879, 938], 83) := by decide +kernel
theorem dLaw_law_116 : decode uLaw.2.1 116 = .ok (.aload_n 1, 1) := by decide +kernel
theorem dLaw_law_117 : decode uLaw.2.1 117 = .ok (.aload_n 0, 1) := by decide +kernel
theorem dLaw_law_118 : decode uLaw.2.1 118 = .ok (.iload_n 3, 1) := by decide +kernel
theorem dLaw_law_119 : decode uLaw.2.1 119 = .ok (.iconst 1, 1) := by decide +kernel
theorem dLaw_law_120 : decode uLaw.2.1 120 = .ok (.iadd, 1) := by decide +kernel
theorem dLaw_law_121 : decode uLaw.2.1 121 = .ok (.iaload, 1) := by decide +kernel
theorem dLaw_law_122 : decode uLaw.2.1 122 = .ok (.aload_n 0, 1) := by decide +kernel
theorem dLaw_law_123 : decode uLaw.2.1 123 = .ok (.iload_n 3, 1) := by decide +kernel
theorem dLaw_law_124 : decode uLaw.2.1 124 = .ok (.iconst 2, 1) := by decide +kernel
theorem dLaw_law_125 : decode uLaw.2.1 125 = .ok (.iadd, 1) := by decide +kernel
theorem dLaw_law_126 : decode uLaw.2.1 126 = .ok (.iaload, 1) := by decide +kernel
theorem dLaw_law_127 : decode uLaw.2.1 127 = .ok (.aload_n 0, 1) := by decide +kernel
theorem dLaw_law_128 : decode uLaw.2.1 128 = .ok (.iload_n 3, 1) := by decide +kernel
theorem dLaw_law_129 : decode uLaw.2.1 129 = .ok (.iconst 3, 1) := by decide +kernel
theorem dLaw_law_130 : decode uLaw.2.1 130 = .ok (.iadd, 1) := by decide +kernel
theorem dLaw_law_131 : decode uLaw.2.1 131 = .ok (.iaload, 1) := by decide +kernel
theorem dLaw_law_132 : decode uLaw.2.1 132 = .ok (.aload_n 0, 1) := by decide +kernel
theorem dLaw_law_133 : decode uLaw.2.1 133 = .ok (.iload_n 3, 1) := by decide +kernel
theorem dLaw_law_134 : decode uLaw.2.1 134 = .ok (.iconst 4, 1) := by decide +kernel
theorem dLaw_law_135 : decode uLaw.2.1 135 = .ok (.iadd, 1) := by decide +kernel
theorem dLaw_law_136 : decode uLaw.2.1 136 = .ok (.iaload, 1) := by decide +kernel
theorem dLaw_law_137 : decode uLaw.2.1 137 = .ok (.ifCond .eq 7, 3) := by decide +kernel
theorem dLaw_law_140 : decode uLaw.2.1 140 = .ok (.iconst 1, 1) := by decide +kernel
theorem dLaw_law_141 : decode uLaw.2.1 141 = .ok (.goto 4, 3) := by decide +kernel
theorem dLaw_law_144 : decode uLaw.2.1 144 = .ok (.iconst 0, 1) := by decide +kernel
theorem dLaw_law_145 : decode uLaw.2.1 145 = .ok (.invokevirtual 13, 3) := by decide +kernel
theorem dLaw_law_148 : decode uLaw.2.1 148 = .ok (.aload_n 2, 1) := by decide +kernel
theorem dLaw_law_149 : decode uLaw.2.1 149 = .ok (.aload_n 0, 1) := by decide +kernel
theorem dLaw_law_150 : decode uLaw.2.1 150 = .ok (.iload_n 3, 1) := by decide +kernel
theorem dLaw_law_151 : decode uLaw.2.1 151 = .ok (.iconst 1, 1) := by decide +kernel
theorem dLaw_law_152 : decode uLaw.2.1 152 = .ok (.iadd, 1) := by decide +kernel
theorem dLaw_law_153 : decode uLaw.2.1 153 = .ok (.iaload, 1) := by decide +kernel
theorem dLaw_law_154 : decode uLaw.2.1 154 = .ok (.aload_n 0, 1) := by decide +kernel
theorem dLaw_law_155 : decode uLaw.2.1 155 = .ok (.iload_n 3, 1) := by decide +kernel
theorem dLaw_law_156 : decode uLaw.2.1 156 = .ok (.iconst 2, 1) := by decide +kernel
theorem dLaw_law_157 : decode uLaw.2.1 157 = .ok (.iadd, 1) := by decide +kernel
theorem dLaw_law_158 : decode uLaw.2.1 158 = .ok (.iaload, 1) := by decide +kernel
theorem dLaw_law_159 : decode uLaw.2.1 159 = .ok (.aload_n 0, 1) := by decide +kernel
theorem dLaw_law_160 : decode uLaw.2.1 160 = .ok (.iload_n 3, 1) := by decide +kernel
theorem dLaw_law_161 : decode uLaw.2.1 161 = .ok (.iconst 3, 1) := by decide +kernel
theorem dLaw_law_162 : decode uLaw.2.1 162 = .ok (.iadd, 1) := by decide +kernel
theorem dLaw_law_163 : decode uLaw.2.1 163 = .ok (.iaload, 1) := by decide +kernel
theorem dLaw_law_164 : decode uLaw.2.1 164 = .ok (.aload_n 0, 1) := by decide +kernel
theorem dLaw_law_165 : decode uLaw.2.1 165 = .ok (.iload_n 3, 1) := by decide +kernel
theorem dLaw_law_166 : decode uLaw.2.1 166 = .ok (.iconst 4, 1) := by decide +kernel
theorem dLaw_law_167 : decode uLaw.2.1 167 = .ok (.iadd, 1) := by decide +kernel
theorem dLaw_law_168 : decode uLaw.2.1 168 = .ok (.iaload, 1) := by decide +kernel
theorem dLaw_law_169 : decode uLaw.2.1 169 = .ok (.ifCond .eq 7, 3) := by decide +kernel
theorem dLaw_law_172 : decode uLaw.2.1 172 = .ok (.iconst 1, 1) := by decide +kernel
theorem dLaw_law_173 : decode uLaw.2.1 173 = .ok (.goto 4, 3) := by decide +kernel
theorem dLaw_law_176 : decode uLaw.2.1 176 = .ok (.iconst 0, 1) := by decide +kernel
theorem dLaw_law_177 : decode uLaw.2.1 177 = .ok (.invokevirtual 17, 3) := by decide +kernel
theorem dLaw_law_180 : decode uLaw.2.1 180 = .ok (.if_icmp .eq 814, 3) := by decide +kernel
theorem dLaw_law_183 : decode uLaw.2.1 183 = .ok (.iconst 0, 1) := by decide +kernel
theorem dLaw_law_184 : decode uLaw.2.1 184 = .ok (.ireturn, 1) := by decide +kernel
theorem dLaw_law_185 : decode uLaw.2.1 185 = .ok (.aload_n 1, 1) := by decide +kernel
theorem dLaw_law_186 : decode uLaw.2.1 186 = .ok (.aload_n 0, 1) := by decide +kernel
theorem dLaw_law_187 : decode uLaw.2.1 187 = .ok (.iload_n 3, 1) := by decide +kernel
theorem dLaw_law_188 : decode uLaw.2.1 188 = .ok (.iconst 1, 1) := by decide +kernel
theorem dLaw_law_189 : decode uLaw.2.1 189 = .ok (.iadd, 1) := by decide +kernel
theorem dLaw_law_190 : decode uLaw.2.1 190 = .ok (.iaload, 1) := by decide +kernel
theorem dLaw_law_191 : decode uLaw.2.1 191 = .ok (.ifCond .eq 7, 3) := by decide +kernel
theorem dLaw_law_194 : decode uLaw.2.1 194 = .ok (.iconst 1, 1) := by decide +kernel
theorem dLaw_law_195 : decode uLaw.2.1 195 = .ok (.goto 4, 3) := by decide +kernel
theorem dLaw_law_198 : decode uLaw.2.1 198 = .ok (.iconst 0, 1) := by decide +kernel
theorem dLaw_law_199 : decode uLaw.2.1 199 = .ok (.invokevirtual 18, 3) := by decide +kernel
theorem dLaw_law_202 : decode uLaw.2.1 202 = .ok (.aload_n 2, 1) := by decide +kernel
theorem dLaw_law_203 : decode uLaw.2.1 203 = .ok (.aload_n 0, 1) := by decide +kernel
theorem dLaw_law_204 : decode uLaw.2.1 204 = .ok (.iload_n 3, 1) := by decide +kernel
theorem dLaw_law_205 : decode uLaw.2.1 205 = .ok (.iconst 1, 1) := by decide +kernel
theorem dLaw_law_206 : decode uLaw.2.1 206 = .ok (.iadd, 1) := by decide +kernel
theorem dLaw_law_207 : decode uLaw.2.1 207 = .ok (.iaload, 1) := by decide +kernel
theorem dLaw_law_208 : decode uLaw.2.1 208 = .ok (.ifCond .eq 7, 3) := by decide +kernel
theorem dLaw_law_211 : decode uLaw.2.1 211 = .ok (.iconst 1, 1) := by decide +kernel
theorem dLaw_law_212 : decode uLaw.2.1 212 = .ok (.goto 4, 3) := by decide +kernel
theorem dLaw_law_215 : decode uLaw.2.1 215 = .ok (.iconst 0, 1) := by decide +kernel
theorem dLaw_law_216 : decode uLaw.2.1 216 = .ok (.invokevirtual 22, 3) := by decide +kernel
theorem dLaw_law_219 : decode uLaw.2.1 219 = .ok (.if_icmp .eq 775, 3) := by decide +kernel
theorem dLaw_law_222 : decode uLaw.2.1 222 = .ok (.iconst 0, 1) := by decide +kernel
theorem dLaw_law_223 : decode uLaw.2.1 223 = .ok (.ireturn, 1) := by decide +kernel
theorem dLaw_law_224 : decode uLaw.2.1 224 = .ok (.aload_n 1, 1) := by decide +kernel
theorem dLaw_law_225 : decode uLaw.2.1 225 = .ok (.aload_n 0, 1) := by decide +kernel
theorem dLaw_law_226 : decode uLaw.2.1 226 = .ok (.iload_n 3, 1) := by decide +kernel
theorem dLaw_law_227 : decode uLaw.2.1 227 = .ok (.iconst 1, 1) := by decide +kernel
theorem dLaw_law_228 : decode uLaw.2.1 228 = .ok (.iadd, 1) := by decide +kernel
theorem dLaw_law_229 : decode uLaw.2.1 229 = .ok (.iaload, 1) := by decide +kernel
theorem dLaw_law_230 : decode uLaw.2.1 230 = .ok (.aload_n 0, 1) := by decide +kernel
theorem dLaw_law_231 : decode uLaw.2.1 231 = .ok (.iload_n 3, 1) := by decide +kernel
theorem dLaw_law_232 : decode uLaw.2.1 232 = .ok (.iconst 2, 1) := by decide +kernel
theorem dLaw_law_233 : decode uLaw.2.1 233 = .ok (.iadd, 1) := by decide +kernel
theorem dLaw_law_234 : decode uLaw.2.1 234 = .ok (.iaload, 1) := by decide +kernel
theorem dLaw_law_235 : decode uLaw.2.1 235 = .ok (.ifCond .eq 7, 3) := by decide +kernel
theorem dLaw_law_238 : decode uLaw.2.1 238 = .ok (.iconst 1, 1) := by decide +kernel
theorem dLaw_law_239 : decode uLaw.2.1 239 = .ok (.goto 4, 3) := by decide +kernel
theorem dLaw_law_242 : decode uLaw.2.1 242 = .ok (.iconst 0, 1) := by decide +kernel
theorem dLaw_law_243 : decode uLaw.2.1 243 = .ok (.invokevirtual 23, 3) := by decide +kernel
theorem dLaw_law_246 : decode uLaw.2.1 246 = .ok (.aload_n 2, 1) := by decide +kernel
theorem dLaw_law_247 : decode uLaw.2.1 247 = .ok (.aload_n 0, 1) := by decide +kernel
theorem dLaw_law_248 : decode uLaw.2.1 248 = .ok (.iload_n 3, 1) := by decide +kernel
theorem dLaw_law_249 : decode uLaw.2.1 249 = .ok (.iconst 1, 1) := by decide +kernel
theorem dLaw_law_250 : decode uLaw.2.1 250 = .ok (.iadd, 1) := by decide +kernel
theorem dLaw_law_251 : decode uLaw.2.1 251 = .ok (.iaload, 1) := by decide +kernel
theorem dLaw_law_252 : decode uLaw.2.1 252 = .ok (.aload_n 0, 1) := by decide +kernel
theorem dLaw_law_253 : decode uLaw.2.1 253 = .ok (.iload_n 3, 1) := by decide +kernel
theorem dLaw_law_254 : decode uLaw.2.1 254 = .ok (.iconst 2, 1) := by decide +kernel
theorem dLaw_law_255 : decode uLaw.2.1 255 = .ok (.iadd, 1) := by decide +kernel
theorem dLaw_law_256 : decode uLaw.2.1 256 = .ok (.iaload, 1) := by decide +kernel
theorem dLaw_law_257 : decode uLaw.2.1 257 = .ok (.ifCond .eq 7, 3) := by decide +kernel
theorem dLaw_law_260 : decode uLaw.2.1 260 = .ok (.iconst 1, 1) := by decide +kernel
theorem dLaw_law_261 : decode uLaw.2.1 261 = .ok (.goto 4, 3) := by decide +kernel
theorem dLaw_law_264 : decode uLaw.2.1 264 = .ok (.iconst 0, 1) := by decide +kernel
theorem dLaw_law_265 : decode uLaw.2.1 265 = .ok (.invokevirtual 27, 3) := by decide +kernel
theorem dLaw_law_268 : decode uLaw.2.1 268 = .ok (.if_icmp .eq 726, 3) := by decide +kernel
theorem dLaw_law_271 : decode uLaw.2.1 271 = .ok (.iconst 0, 1) := by decide +kernel
theorem dLaw_law_272 : decode uLaw.2.1 272 = .ok (.ireturn, 1) := by decide +kernel
theorem dLaw_law_273 : decode uLaw.2.1 273 = .ok (.aload_n 1, 1) := by decide +kernel
theorem dLaw_law_274 : decode uLaw.2.1 274 = .ok (.aload_n 0, 1) := by decide +kernel
theorem dLaw_law_275 : decode uLaw.2.1 275 = .ok (.iload_n 3, 1) := by decide +kernel
theorem dLaw_law_276 : decode uLaw.2.1 276 = .ok (.iconst 1, 1) := by decide +kernel
theorem dLaw_law_277 : decode uLaw.2.1 277 = .ok (.iadd, 1) := by decide +kernel
theorem dLaw_law_278 : decode uLaw.2.1 278 = .ok (.iaload, 1) := by decide +kernel
theorem dLaw_law_279 : decode uLaw.2.1 279 = .ok (.aload_n 0, 1) := by decide +kernel
theorem dLaw_law_280 : decode uLaw.2.1 280 = .ok (.iload_n 3, 1) := by decide +kernel
theorem dLaw_law_281 : decode uLaw.2.1 281 = .ok (.iconst 2, 1) := by decide +kernel
theorem dLaw_law_282 : decode uLaw.2.1 282 = .ok (.iadd, 1) := by decide +kernel
theorem dLaw_law_283 : decode uLaw.2.1 283 = .ok (.iaload, 1) := by decide +kernel
theorem dLaw_law_284 : decode uLaw.2.1 284 = .ok (.aload_n 0, 1) := by decide +kernel
theorem dLaw_law_285 : decode uLaw.2.1 285 = .ok (.iload_n 3, 1) := by decide +kernel
theorem dLaw_law_286 : decode uLaw.2.1 286 = .ok (.iconst 3, 1) := by decide +kernel
theorem dLaw_law_287 : decode uLaw.2.1 287 = .ok (.iadd, 1) := by decide +kernel
theorem dLaw_law_288 : decode uLaw.2.1 288 = .ok (.iaload, 1) := by decide +kernel
theorem dLaw_law_289 : decode uLaw.2.1 289 = .ok (.i2l, 1) := by decide +kernel
theorem dLaw_law_290 : decode uLaw.2.1 290 = .ok (.bipush 32, 2) := by decide +kernel
theorem dLaw_law_292 : decode uLaw.2.1 292 = .ok (.lshl, 1) := by decide +kernel
theorem dLaw_law_293 : decode uLaw.2.1 293 = .ok (.aload_n 0, 1) := by decide +kernel
theorem dLaw_law_294 : decode uLaw.2.1 294 = .ok (.iload_n 3, 1) := by decide +kernel
theorem dLaw_law_295 : decode uLaw.2.1 295 = .ok (.iconst 4, 1) := by decide +kernel
theorem dLaw_law_296 : decode uLaw.2.1 296 = .ok (.iadd, 1) := by decide +kernel
theorem dLaw_law_297 : decode uLaw.2.1 297 = .ok (.iaload, 1) := by decide +kernel
theorem dLaw_law_298 : decode uLaw.2.1 298 = .ok (.i2l, 1) := by decide +kernel
theorem dLaw_law_299 : decode uLaw.2.1 299 = .ok (.ldc2_w 28, 3) := by decide +kernel
theorem dLaw_law_302 : decode uLaw.2.1 302 = .ok (.land, 1) := by decide +kernel
theorem dLaw_law_303 : decode uLaw.2.1 303 = .ok (.lor, 1) := by decide +kernel
theorem dLaw_law_304 : decode uLaw.2.1 304 = .ok (.aload_n 0, 1) := by decide +kernel
theorem dLaw_law_305 : decode uLaw.2.1 305 = .ok (.iload_n 3, 1) := by decide +kernel
theorem dLaw_law_306 : decode uLaw.2.1 306 = .ok (.iconst 5, 1) := by decide +kernel
theorem dLaw_law_307 : decode uLaw.2.1 307 = .ok (.iadd, 1) := by decide +kernel
theorem dLaw_law_308 : decode uLaw.2.1 308 = .ok (.iaload, 1) := by decide +kernel
theorem dLaw_law_309 : decode uLaw.2.1 309 = .ok (.aload_n 0, 1) := by decide +kernel
theorem dLaw_law_310 : decode uLaw.2.1 310 = .ok (.iload_n 3, 1) := by decide +kernel
theorem dLaw_law_311 : decode uLaw.2.1 311 = .ok (.bipush 6, 2) := by decide +kernel
theorem dLaw_law_313 : decode uLaw.2.1 313 = .ok (.iadd, 1) := by decide +kernel
theorem dLaw_law_314 : decode uLaw.2.1 314 = .ok (.iaload, 1) := by decide +kernel
theorem dLaw_law_315 : decode uLaw.2.1 315 = .ok (.ifCond .eq 7, 3) := by decide +kernel
theorem dLaw_law_318 : decode uLaw.2.1 318 = .ok (.iconst 1, 1) := by decide +kernel
theorem dLaw_law_319 : decode uLaw.2.1 319 = .ok (.goto 4, 3) := by decide +kernel
theorem dLaw_law_322 : decode uLaw.2.1 322 = .ok (.iconst 0, 1) := by decide +kernel
theorem dLaw_law_323 : decode uLaw.2.1 323 = .ok (.invokevirtual 30, 3) := by decide +kernel
theorem dLaw_law_326 : decode uLaw.2.1 326 = .ok (.aload_n 2, 1) := by decide +kernel
theorem dLaw_law_327 : decode uLaw.2.1 327 = .ok (.aload_n 0, 1) := by decide +kernel
theorem dLaw_law_328 : decode uLaw.2.1 328 = .ok (.iload_n 3, 1) := by decide +kernel
theorem dLaw_law_329 : decode uLaw.2.1 329 = .ok (.iconst 1, 1) := by decide +kernel
theorem dLaw_law_330 : decode uLaw.2.1 330 = .ok (.iadd, 1) := by decide +kernel
theorem dLaw_law_331 : decode uLaw.2.1 331 = .ok (.iaload, 1) := by decide +kernel
theorem dLaw_law_332 : decode uLaw.2.1 332 = .ok (.aload_n 0, 1) := by decide +kernel
theorem dLaw_law_333 : decode uLaw.2.1 333 = .ok (.iload_n 3, 1) := by decide +kernel
theorem dLaw_law_334 : decode uLaw.2.1 334 = .ok (.iconst 2, 1) := by decide +kernel
theorem dLaw_law_335 : decode uLaw.2.1 335 = .ok (.iadd, 1) := by decide +kernel
theorem dLaw_law_336 : decode uLaw.2.1 336 = .ok (.iaload, 1) := by decide +kernel
theorem dLaw_law_337 : decode uLaw.2.1 337 = .ok (.aload_n 0, 1) := by decide +kernel
theorem dLaw_law_338 : decode uLaw.2.1 338 = .ok (.iload_n 3, 1) := by decide +kernel
theorem dLaw_law_339 : decode uLaw.2.1 339 = .ok (.iconst 3, 1) := by decide +kernel
theorem dLaw_law_340 : decode uLaw.2.1 340 = .ok (.iadd, 1) := by decide +kernel
theorem dLaw_law_341 : decode uLaw.2.1 341 = .ok (.iaload, 1) := by decide +kernel
theorem dLaw_law_342 : decode uLaw.2.1 342 = .ok (.i2l, 1) := by decide +kernel
theorem dLaw_law_343 : decode uLaw.2.1 343 = .ok (.bipush 32, 2) := by decide +kernel
theorem dLaw_law_345 : decode uLaw.2.1 345 = .ok (.lshl, 1) := by decide +kernel
theorem dLaw_law_346 : decode uLaw.2.1 346 = .ok (.aload_n 0, 1) := by decide +kernel
theorem dLaw_law_347 : decode uLaw.2.1 347 = .ok (.iload_n 3, 1) := by decide +kernel
theorem dLaw_law_348 : decode uLaw.2.1 348 = .ok (.iconst 4, 1) := by decide +kernel
theorem dLaw_law_349 : decode uLaw.2.1 349 = .ok (.iadd, 1) := by decide +kernel
theorem dLaw_law_350 : decode uLaw.2.1 350 = .ok (.iaload, 1) := by decide +kernel
theorem dLaw_law_351 : decode uLaw.2.1 351 = .ok (.i2l, 1) := by decide +kernel
theorem dLaw_law_352 : decode uLaw.2.1 352 = .ok (.ldc2_w 28, 3) := by decide +kernel
theorem dLaw_law_355 : decode uLaw.2.1 355 = .ok (.land, 1) := by decide +kernel
theorem dLaw_law_356 : decode uLaw.2.1 356 = .ok (.lor, 1) := by decide +kernel
theorem dLaw_law_357 : decode uLaw.2.1 357 = .ok (.aload_n 0, 1) := by decide +kernel
theorem dLaw_law_358 : decode uLaw.2.1 358 = .ok (.iload_n 3, 1) := by decide +kernel
theorem dLaw_law_359 : decode uLaw.2.1 359 = .ok (.iconst 5, 1) := by decide +kernel
theorem dLaw_law_360 : decode uLaw.2.1 360 = .ok (.iadd, 1) := by decide +kernel
theorem dLaw_law_361 : decode uLaw.2.1 361 = .ok (.iaload, 1) := by decide +kernel
theorem dLaw_law_362 : decode uLaw.2.1 362 = .ok (.aload_n 0, 1) := by decide +kernel
theorem dLaw_law_363 : decode uLaw.2.1 363 = .ok (.iload_n 3, 1) := by decide +kernel
theorem dLaw_law_364 : decode uLaw.2.1 364 = .ok (.bipush 6, 2) := by decide +kernel
theorem dLaw_law_366 : decode uLaw.2.1 366 = .ok (.iadd, 1) := by decide +kernel
theorem dLaw_law_367 : decode uLaw.2.1 367 = .ok (.iaload, 1) := by decide +kernel
theorem dLaw_law_368 : decode uLaw.2.1 368 = .ok (.ifCond .eq 7, 3) := by decide +kernel
theorem dLaw_law_371 : decode uLaw.2.1 371 = .ok (.iconst 1, 1) := by decide +kernel
theorem dLaw_law_372 : decode uLaw.2.1 372 = .ok (.goto 4, 3) := by decide +kernel
theorem dLaw_law_375 : decode uLaw.2.1 375 = .ok (.iconst 0, 1) := by decide +kernel
theorem dLaw_law_376 : decode uLaw.2.1 376 = .ok (.invokevirtual 34, 3) := by decide +kernel
theorem dLaw_law_379 : decode uLaw.2.1 379 = .ok (.if_icmp .eq 615, 3) := by decide +kernel
theorem dLaw_law_382 : decode uLaw.2.1 382 = .ok (.iconst 0, 1) := by decide +kernel
theorem dLaw_law_383 : decode uLaw.2.1 383 = .ok (.ireturn, 1) := by decide +kernel
theorem dLaw_law_384 : decode uLaw.2.1 384 = .ok (.aload_n 1, 1) := by decide +kernel
theorem dLaw_law_385 : decode uLaw.2.1 385 = .ok (.aload_n 0, 1) := by decide +kernel
theorem dLaw_law_386 : decode uLaw.2.1 386 = .ok (.iload_n 3, 1) := by decide +kernel
theorem dLaw_law_387 : decode uLaw.2.1 387 = .ok (.iconst 1, 1) := by decide +kernel
theorem dLaw_law_388 : decode uLaw.2.1 388 = .ok (.iadd, 1) := by decide +kernel
theorem dLaw_law_389 : decode uLaw.2.1 389 = .ok (.iaload, 1) := by decide +kernel
theorem dLaw_law_390 : decode uLaw.2.1 390 = .ok (.aload_n 0, 1) := by decide +kernel
theorem dLaw_law_391 : decode uLaw.2.1 391 = .ok (.iload_n 3, 1) := by decide +kernel
theorem dLaw_law_392 : decode uLaw.2.1 392 = .ok (.iconst 2, 1) := by decide +kernel
theorem dLaw_law_393 : decode uLaw.2.1 393 = .ok (.iadd, 1) := by decide +kernel
theorem dLaw_law_394 : decode uLaw.2.1 394 = .ok (.iaload, 1) := by decide +kernel
theorem dLaw_law_395 : decode uLaw.2.1 395 = .ok (.invokevirtual 35, 3) := by decide +kernel
theorem dLaw_law_398 : decode uLaw.2.1 398 = .ok (.aload_n 2, 1) := by decide +kernel
theorem dLaw_law_399 : decode uLaw.2.1 399 = .ok (.aload_n 0, 1) := by decide +kernel
theorem dLaw_law_400 : decode uLaw.2.1 400 = .ok (.iload_n 3, 1) := by decide +kernel
theorem dLaw_law_401 : decode uLaw.2.1 401 = .ok (.iconst 1, 1) := by decide +kernel
theorem dLaw_law_402 : decode uLaw.2.1 402 = .ok (.iadd, 1) := by decide +kernel
theorem dLaw_law_403 : decode uLaw.2.1 403 = .ok (.iaload, 1) := by decide +kernel
theorem dLaw_law_404 : decode uLaw.2.1 404 = .ok (.aload_n 0, 1) := by decide +kernel
theorem dLaw_law_405 : decode uLaw.2.1 405 = .ok (.iload_n 3, 1) := by decide +kernel
theorem dLaw_law_406 : decode uLaw.2.1 406 = .ok (.iconst 2, 1) := by decide +kernel
theorem dLaw_law_407 : decode uLaw.2.1 407 = .ok (.iadd, 1) := by decide +kernel
theorem dLaw_law_408 : decode uLaw.2.1 408 = .ok (.iaload, 1) := by decide +kernel
theorem dLaw_law_409 : decode uLaw.2.1 409 = .ok (.invokevirtual 39, 3) := by decide +kernel
theorem dLaw_law_412 : decode uLaw.2.1 412 = .ok (.if_icmp .eq 582, 3) := by decide +kernel
theorem dLaw_law_415 : decode uLaw.2.1 415 = .ok (.iconst 0, 1) := by decide +kernel
theorem dLaw_law_416 : decode uLaw.2.1 416 = .ok (.ireturn, 1) := by decide +kernel
theorem dLaw_law_417 : decode uLaw.2.1 417 = .ok (.aload_n 1, 1) := by decide +kernel
theorem dLaw_law_418 : decode uLaw.2.1 418 = .ok (.aload_n 0, 1) := by decide +kernel
theorem dLaw_law_419 : decode uLaw.2.1 419 = .ok (.iload_n 3, 1) := by decide +kernel
theorem dLaw_law_420 : decode uLaw.2.1 420 = .ok (.iconst 1, 1) := by decide +kernel
theorem dLaw_law_421 : decode uLaw.2.1 421 = .ok (.iadd, 1) := by decide +kernel
theorem dLaw_law_422 : decode uLaw.2.1 422 = .ok (.iaload, 1) := by decide +kernel
theorem dLaw_law_423 : decode uLaw.2.1 423 = .ok (.aload_n 0, 1) := by decide +kernel
theorem dLaw_law_424 : decode uLaw.2.1 424 = .ok (.iload_n 3, 1) := by decide +kernel
theorem dLaw_law_425 : decode uLaw.2.1 425 = .ok (.iconst 2, 1) := by decide +kernel
theorem dLaw_law_426 : decode uLaw.2.1 426 = .ok (.iadd, 1) := by decide +kernel
theorem dLaw_law_427 : decode uLaw.2.1 427 = .ok (.iaload, 1) := by decide +kernel
theorem dLaw_law_428 : decode uLaw.2.1 428 = .ok (.aload_n 0, 1) := by decide +kernel
theorem dLaw_law_429 : decode uLaw.2.1 429 = .ok (.iload_n 3, 1) := by decide +kernel
theorem dLaw_law_430 : decode uLaw.2.1 430 = .ok (.iconst 3, 1) := by decide +kernel
theorem dLaw_law_431 : decode uLaw.2.1 431 = .ok (.iadd, 1) := by decide +kernel
theorem dLaw_law_432 : decode uLaw.2.1 432 = .ok (.iaload, 1) := by decide +kernel
theorem dLaw_law_433 : decode uLaw.2.1 433 = .ok (.invokevirtual 40, 3) := by decide +kernel
theorem dLaw_law_436 : decode uLaw.2.1 436 = .ok (.aload_n 2, 1) := by decide +kernel
theorem dLaw_law_437 : decode uLaw.2.1 437 = .ok (.aload_n 0, 1) := by decide +kernel
theorem dLaw_law_438 : decode uLaw.2.1 438 = .ok (.iload_n 3, 1) := by decide +kernel
theorem dLaw_law_439 : decode uLaw.2.1 439 = .ok (.iconst 1, 1) := by decide +kernel
theorem dLaw_law_440 : decode uLaw.2.1 440 = .ok (.iadd, 1) := by decide +kernel
theorem dLaw_law_441 : decode uLaw.2.1 441 = .ok (.iaload, 1) := by decide +kernel
theorem dLaw_law_442 : decode uLaw.2.1 442 = .ok (.aload_n 0, 1) := by decide +kernel
theorem dLaw_law_443 : decode uLaw.2.1 443 = .ok (.iload_n 3, 1) := by decide +kernel
theorem dLaw_law_444 : decode uLaw.2.1 444 = .ok (.iconst 2, 1) := by decide +kernel
theorem dLaw_law_445 : decode uLaw.2.1 445 = .ok (.iadd, 1) := by decide +kernel
theorem dLaw_law_446 : decode uLaw.2.1 446 = .ok (.iaload, 1) := by decide +kernel
theorem dLaw_law_447 : decode uLaw.2.1 447 = .ok (.aload_n 0, 1) := by decide +kernel
theorem dLaw_law_448 : decode uLaw.2.1 448 = .ok (.iload_n 3, 1) := by decide +kernel
theorem dLaw_law_449 : decode uLaw.2.1 449 = .ok (.iconst 3, 1) := by decide +kernel
theorem dLaw_law_450 : decode uLaw.2.1 450 = .ok (.iadd, 1) := by decide +kernel
theorem dLaw_law_451 : decode uLaw.2.1 451 = .ok (.iaload, 1) := by decide +kernel
theorem dLaw_law_452 : decode uLaw.2.1 452 = .ok (.invokevirtual 44, 3) := by decide +kernel
theorem dLaw_law_455 : decode uLaw.2.1 455 = .ok (.lcmp, 1) := by decide +kernel
theorem dLaw_law_456 : decode uLaw.2.1 456 = .ok (.ifCond .eq 538, 3) := by decide +kernel
theorem dLaw_law_459 : decode uLaw.2.1 459 = .ok (.iconst 0, 1) := by decide +kernel
theorem dLaw_law_460 : decode uLaw.2.1 460 = .ok (.ireturn, 1) := by decide +kernel
theorem dLaw_law_461 : decode uLaw.2.1 461 = .ok (.aload_n 1, 1) := by decide +kernel
theorem dLaw_law_462 : decode uLaw.2.1 462 = .ok (.aload_n 0, 1) := by decide +kernel
theorem dLaw_law_463 : decode uLaw.2.1 463 = .ok (.iload_n 3, 1) := by decide +kernel
theorem dLaw_law_464 : decode uLaw.2.1 464 = .ok (.iconst 1, 1) := by decide +kernel
theorem dLaw_law_465 : decode uLaw.2.1 465 = .ok (.iadd, 1) := by decide +kernel
theorem dLaw_law_466 : decode uLaw.2.1 466 = .ok (.iaload, 1) := by decide +kernel
theorem dLaw_law_467 : decode uLaw.2.1 467 = .ok (.aload_n 0, 1) := by decide +kernel
theorem dLaw_law_468 : decode uLaw.2.1 468 = .ok (.iload_n 3, 1) := by decide +kernel
theorem dLaw_law_469 : decode uLaw.2.1 469 = .ok (.iconst 2, 1) := by decide +kernel
theorem dLaw_law_470 : decode uLaw.2.1 470 = .ok (.iadd, 1) := by decide +kernel
theorem dLaw_law_471 : decode uLaw.2.1 471 = .ok (.iaload, 1) := by decide +kernel
theorem dLaw_law_472 : decode uLaw.2.1 472 = .ok (.aload_n 0, 1) := by decide +kernel
theorem dLaw_law_473 : decode uLaw.2.1 473 = .ok (.iload_n 3, 1) := by decide +kernel
theorem dLaw_law_474 : decode uLaw.2.1 474 = .ok (.iconst 3, 1) := by decide +kernel
theorem dLaw_law_475 : decode uLaw.2.1 475 = .ok (.iadd, 1) := by decide +kernel
theorem dLaw_law_476 : decode uLaw.2.1 476 = .ok (.iaload, 1) := by decide +kernel
theorem dLaw_law_477 : decode uLaw.2.1 477 = .ok (.invokevirtual 45, 3) := by decide +kernel
theorem dLaw_law_480 : decode uLaw.2.1 480 = .ok (.aload_n 2, 1) := by decide +kernel
theorem dLaw_law_481 : decode uLaw.2.1 481 = .ok (.aload_n 0, 1) := by decide +kernel
theorem dLaw_law_482 : decode uLaw.2.1 482 = .ok (.iload_n 3, 1) := by decide +kernel
theorem dLaw_law_483 : decode uLaw.2.1 483 = .ok (.iconst 1, 1) := by decide +kernel
theorem dLaw_law_484 : decode uLaw.2.1 484 = .ok (.iadd, 1) := by decide +kernel
theorem dLaw_law_485 : decode uLaw.2.1 485 = .ok (.iaload, 1) := by decide +kernel
theorem dLaw_law_486 : decode uLaw.2.1 486 = .ok (.aload_n 0, 1) := by decide +kernel
theorem dLaw_law_487 : decode uLaw.2.1 487 = .ok (.iload_n 3, 1) := by decide +kernel
theorem dLaw_law_488 : decode uLaw.2.1 488 = .ok (.iconst 2, 1) := by decide +kernel
theorem dLaw_law_489 : decode uLaw.2.1 489 = .ok (.iadd, 1) := by decide +kernel
theorem dLaw_law_490 : decode uLaw.2.1 490 = .ok (.iaload, 1) := by decide +kernel
theorem dLaw_law_491 : decode uLaw.2.1 491 = .ok (.aload_n 0, 1) := by decide +kernel
theorem dLaw_law_492 : decode uLaw.2.1 492 = .ok (.iload_n 3, 1) := by decide +kernel
theorem dLaw_law_493 : decode uLaw.2.1 493 = .ok (.iconst 3, 1) := by decide +kernel
theorem dLaw_law_494 : decode uLaw.2.1 494 = .ok (.iadd, 1) := by decide +kernel
theorem dLaw_law_495 : decode uLaw.2.1 495 = .ok (.iaload, 1) := by decide +kernel
theorem dLaw_law_496 : decode uLaw.2.1 496 = .ok (.invokevirtual 49, 3) := by decide +kernel
theorem dLaw_law_499 : decode uLaw.2.1 499 = .ok (.if_icmp .eq 495, 3) := by decide +kernel
theorem dLaw_law_502 : decode uLaw.2.1 502 = .ok (.iconst 0, 1) := by decide +kernel
theorem dLaw_law_503 : decode uLaw.2.1 503 = .ok (.ireturn, 1) := by decide +kernel
theorem dLaw_law_504 : decode uLaw.2.1 504 = .ok (.aload_n 1, 1) := by decide +kernel
theorem dLaw_law_505 : decode uLaw.2.1 505 = .ok (.aload_n 0, 1) := by decide +kernel
theorem dLaw_law_506 : decode uLaw.2.1 506 = .ok (.iload_n 3, 1) := by decide +kernel
theorem dLaw_law_507 : decode uLaw.2.1 507 = .ok (.iconst 1, 1) := by decide +kernel
theorem dLaw_law_508 : decode uLaw.2.1 508 = .ok (.iadd, 1) := by decide +kernel
theorem dLaw_law_509 : decode uLaw.2.1 509 = .ok (.iaload, 1) := by decide +kernel
theorem dLaw_law_510 : decode uLaw.2.1 510 = .ok (.aload_n 0, 1) := by decide +kernel
theorem dLaw_law_511 : decode uLaw.2.1 511 = .ok (.iload_n 3, 1) := by decide +kernel
theorem dLaw_law_512 : decode uLaw.2.1 512 = .ok (.iconst 2, 1) := by decide +kernel
theorem dLaw_law_513 : decode uLaw.2.1 513 = .ok (.iadd, 1) := by decide +kernel
theorem dLaw_law_514 : decode uLaw.2.1 514 = .ok (.iaload, 1) := by decide +kernel
theorem dLaw_law_515 : decode uLaw.2.1 515 = .ok (.aload_n 0, 1) := by decide +kernel
theorem dLaw_law_516 : decode uLaw.2.1 516 = .ok (.iload_n 3, 1) := by decide +kernel
theorem dLaw_law_517 : decode uLaw.2.1 517 = .ok (.iconst 3, 1) := by decide +kernel
theorem dLaw_law_518 : decode uLaw.2.1 518 = .ok (.iadd, 1) := by decide +kernel
theorem dLaw_law_519 : decode uLaw.2.1 519 = .ok (.iaload, 1) := by decide +kernel
theorem dLaw_law_520 : decode uLaw.2.1 520 = .ok (.invokevirtual 50, 3) := by decide +kernel
theorem dLaw_law_523 : decode uLaw.2.1 523 = .ok (.aload_n 2, 1) := by decide +kernel
theorem dLaw_law_524 : decode uLaw.2.1 524 = .ok (.aload_n 0, 1) := by decide +kernel
theorem dLaw_law_525 : decode uLaw.2.1 525 = .ok (.iload_n 3, 1) := by decide +kernel
theorem dLaw_law_526 : decode uLaw.2.1 526 = .ok (.iconst 1, 1) := by decide +kernel
theorem dLaw_law_527 : decode uLaw.2.1 527 = .ok (.iadd, 1) := by decide +kernel
theorem dLaw_law_528 : decode uLaw.2.1 528 = .ok (.iaload, 1) := by decide +kernel
theorem dLaw_law_529 : decode uLaw.2.1 529 = .ok (.aload_n 0, 1) := by decide +kernel
theorem dLaw_law_530 : decode uLaw.2.1 530 = .ok (.iload_n 3, 1) := by decide +kernel
theorem dLaw_law_531 : decode uLaw.2.1 531 = .ok (.iconst 2, 1) := by decide +kernel
theorem dLaw_law_532 : decode uLaw.2.1 532 = .ok (.iadd, 1) := by decide +kernel
theorem dLaw_law_533 : decode uLaw.2.1 533 = .ok (.iaload, 1) := by decide +kernel
theorem dLaw_law_534 : decode uLaw.2.1 534 = .ok (.aload_n 0, 1) := by decide +kernel
theorem dLaw_law_535 : decode uLaw.2.1 535 = .ok (.iload_n 3, 1) := by decide +kernel
theorem dLaw_law_536 : decode uLaw.2.1 536 = .ok (.iconst 3, 1) := by decide +kernel
theorem dLaw_law_537 : decode uLaw.2.1 537 = .ok (.iadd, 1) := by decide +kernel
theorem dLaw_law_538 : decode uLaw.2.1 538 = .ok (.iaload, 1) := by decide +kernel
theorem dLaw_law_539 : decode uLaw.2.1 539 = .ok (.invokevirtual 53, 3) := by decide +kernel
theorem dLaw_law_542 : decode uLaw.2.1 542 = .ok (.if_icmp .eq 452, 3) := by decide +kernel
theorem dLaw_law_545 : decode uLaw.2.1 545 = .ok (.iconst 0, 1) := by decide +kernel
theorem dLaw_law_546 : decode uLaw.2.1 546 = .ok (.ireturn, 1) := by decide +kernel
theorem dLaw_law_547 : decode uLaw.2.1 547 = .ok (.aload_n 1, 1) := by decide +kernel
theorem dLaw_law_548 : decode uLaw.2.1 548 = .ok (.aload_n 0, 1) := by decide +kernel
theorem dLaw_law_549 : decode uLaw.2.1 549 = .ok (.iload_n 3, 1) := by decide +kernel
theorem dLaw_law_550 : decode uLaw.2.1 550 = .ok (.iconst 1, 1) := by decide +kernel
theorem dLaw_law_551 : decode uLaw.2.1 551 = .ok (.iadd, 1) := by decide +kernel
theorem dLaw_law_552 : decode uLaw.2.1 552 = .ok (.iaload, 1) := by decide +kernel
theorem dLaw_law_553 : decode uLaw.2.1 553 = .ok (.invokevirtual 54, 3) := by decide +kernel
theorem dLaw_law_556 : decode uLaw.2.1 556 = .ok (.aload_n 2, 1) := by decide +kernel
theorem dLaw_law_557 : decode uLaw.2.1 557 = .ok (.aload_n 0, 1) := by decide +kernel
theorem dLaw_law_558 : decode uLaw.2.1 558 = .ok (.iload_n 3, 1) := by decide +kernel
theorem dLaw_law_559 : decode uLaw.2.1 559 = .ok (.iconst 1, 1) := by decide +kernel
theorem dLaw_law_560 : decode uLaw.2.1 560 = .ok (.iadd, 1) := by decide +kernel
theorem dLaw_law_561 : decode uLaw.2.1 561 = .ok (.iaload, 1) := by decide +kernel
theorem dLaw_law_562 : decode uLaw.2.1 562 = .ok (.invokevirtual 58, 3) := by decide +kernel
theorem dLaw_law_565 : decode uLaw.2.1 565 = .ok (.if_icmp .eq 429, 3) := by decide +kernel
theorem dLaw_law_568 : decode uLaw.2.1 568 = .ok (.iconst 0, 1) := by decide +kernel
theorem dLaw_law_569 : decode uLaw.2.1 569 = .ok (.ireturn, 1) := by decide +kernel
theorem dLaw_law_570 : decode uLaw.2.1 570 = .ok (.aload_n 1, 1) := by decide +kernel
theorem dLaw_law_571 : decode uLaw.2.1 571 = .ok (.aload_n 0, 1) := by decide +kernel
theorem dLaw_law_572 : decode uLaw.2.1 572 = .ok (.iload_n 3, 1) := by decide +kernel
theorem dLaw_law_573 : decode uLaw.2.1 573 = .ok (.iconst 1, 1) := by decide +kernel
theorem dLaw_law_574 : decode uLaw.2.1 574 = .ok (.iadd, 1) := by decide +kernel
theorem dLaw_law_575 : decode uLaw.2.1 575 = .ok (.iaload, 1) := by decide +kernel
theorem dLaw_law_576 : decode uLaw.2.1 576 = .ok (.aload_n 0, 1) := by decide +kernel
theorem dLaw_law_577 : decode uLaw.2.1 577 = .ok (.iload_n 3, 1) := by decide +kernel
theorem dLaw_law_578 : decode uLaw.2.1 578 = .ok (.iconst 2, 1) := by decide +kernel
theorem dLaw_law_579 : decode uLaw.2.1 579 = .ok (.iadd, 1) := by decide +kernel
theorem dLaw_law_580 : decode uLaw.2.1 580 = .ok (.iaload, 1) := by decide +kernel
theorem dLaw_law_581 : decode uLaw.2.1 581 = .ok (.aload_n 0, 1) := by decide +kernel
theorem dLaw_law_582 : decode uLaw.2.1 582 = .ok (.iload_n 3, 1) := by decide +kernel
theorem dLaw_law_583 : decode uLaw.2.1 583 = .ok (.iconst 3, 1) := by decide +kernel
theorem dLaw_law_584 : decode uLaw.2.1 584 = .ok (.iadd, 1) := by decide +kernel
theorem dLaw_law_585 : decode uLaw.2.1 585 = .ok (.iaload, 1) := by decide +kernel
theorem dLaw_law_586 : decode uLaw.2.1 586 = .ok (.aload_n 0, 1) := by decide +kernel
theorem dLaw_law_587 : decode uLaw.2.1 587 = .ok (.iload_n 3, 1) := by decide +kernel
theorem dLaw_law_588 : decode uLaw.2.1 588 = .ok (.iconst 4, 1) := by decide +kernel
theorem dLaw_law_589 : decode uLaw.2.1 589 = .ok (.iadd, 1) := by decide +kernel
theorem dLaw_law_590 : decode uLaw.2.1 590 = .ok (.iaload, 1) := by decide +kernel
theorem dLaw_law_591 : decode uLaw.2.1 591 = .ok (.aload_n 0, 1) := by decide +kernel
theorem dLaw_law_592 : decode uLaw.2.1 592 = .ok (.iload_n 3, 1) := by decide +kernel
theorem dLaw_law_593 : decode uLaw.2.1 593 = .ok (.iconst 5, 1) := by decide +kernel
theorem dLaw_law_594 : decode uLaw.2.1 594 = .ok (.iadd, 1) := by decide +kernel
theorem dLaw_law_595 : decode uLaw.2.1 595 = .ok (.iaload, 1) := by decide +kernel
theorem dLaw_law_596 : decode uLaw.2.1 596 = .ok (.ifCond .eq 7, 3) := by decide +kernel
theorem dLaw_law_599 : decode uLaw.2.1 599 = .ok (.iconst 1, 1) := by decide +kernel
theorem dLaw_law_600 : decode uLaw.2.1 600 = .ok (.goto 4, 3) := by decide +kernel
theorem dLaw_law_603 : decode uLaw.2.1 603 = .ok (.iconst 0, 1) := by decide +kernel
theorem dLaw_law_604 : decode uLaw.2.1 604 = .ok (.invokevirtual 59, 3) := by decide +kernel
theorem dLaw_law_607 : decode uLaw.2.1 607 = .ok (.aload_n 2, 1) := by decide +kernel
theorem dLaw_law_608 : decode uLaw.2.1 608 = .ok (.aload_n 0, 1) := by decide +kernel
theorem dLaw_law_609 : decode uLaw.2.1 609 = .ok (.iload_n 3, 1) := by decide +kernel
theorem dLaw_law_610 : decode uLaw.2.1 610 = .ok (.iconst 1, 1) := by decide +kernel
theorem dLaw_law_611 : decode uLaw.2.1 611 = .ok (.iadd, 1) := by decide +kernel
theorem dLaw_law_612 : decode uLaw.2.1 612 = .ok (.iaload, 1) := by decide +kernel
theorem dLaw_law_613 : decode uLaw.2.1 613 = .ok (.aload_n 0, 1) := by decide +kernel
theorem dLaw_law_614 : decode uLaw.2.1 614 = .ok (.iload_n 3, 1) := by decide +kernel
theorem dLaw_law_615 : decode uLaw.2.1 615 = .ok (.iconst 2, 1) := by decide +kernel
theorem dLaw_law_616 : decode uLaw.2.1 616 = .ok (.iadd, 1) := by decide +kernel
theorem dLaw_law_617 : decode uLaw.2.1 617 = .ok (.iaload, 1) := by decide +kernel
theorem dLaw_law_618 : decode uLaw.2.1 618 = .ok (.aload_n 0, 1) := by decide +kernel
theorem dLaw_law_619 : decode uLaw.2.1 619 = .ok (.iload_n 3, 1) := by decide +kernel
theorem dLaw_law_620 : decode uLaw.2.1 620 = .ok (.iconst 3, 1) := by decide +kernel
theorem dLaw_law_621 : decode uLaw.2.1 621 = .ok (.iadd, 1) := by decide +kernel
theorem dLaw_law_622 : decode uLaw.2.1 622 = .ok (.iaload, 1) := by decide +kernel
theorem dLaw_law_623 : decode uLaw.2.1 623 = .ok (.aload_n 0, 1) := by decide +kernel
theorem dLaw_law_624 : decode uLaw.2.1 624 = .ok (.iload_n 3, 1) := by decide +kernel
theorem dLaw_law_625 : decode uLaw.2.1 625 = .ok (.iconst 4, 1) := by decide +kernel
theorem dLaw_law_626 : decode uLaw.2.1 626 = .ok (.iadd, 1) := by decide +kernel
theorem dLaw_law_627 : decode uLaw.2.1 627 = .ok (.iaload, 1) := by decide +kernel
theorem dLaw_law_628 : decode uLaw.2.1 628 = .ok (.aload_n 0, 1) := by decide +kernel
theorem dLaw_law_629 : decode uLaw.2.1 629 = .ok (.iload_n 3, 1) := by decide +kernel
theorem dLaw_law_630 : decode uLaw.2.1 630 = .ok (.iconst 5, 1) := by decide +kernel
theorem dLaw_law_631 : decode uLaw.2.1 631 = .ok (.iadd, 1) := by decide +kernel
theorem dLaw_law_632 : decode uLaw.2.1 632 = .ok (.iaload, 1) := by decide +kernel
theorem dLaw_law_633 : decode uLaw.2.1 633 = .ok (.ifCond .eq 7, 3) := by decide +kernel
theorem dLaw_law_636 : decode uLaw.2.1 636 = .ok (.iconst 1, 1) := by decide +kernel
theorem dLaw_law_637 : decode uLaw.2.1 637 = .ok (.goto 4, 3) := by decide +kernel
theorem dLaw_law_640 : decode uLaw.2.1 640 = .ok (.iconst 0, 1) := by decide +kernel
theorem dLaw_law_641 : decode uLaw.2.1 641 = .ok (.invokevirtual 63, 3) := by decide +kernel
theorem dLaw_law_644 : decode uLaw.2.1 644 = .ok (.if_icmp .eq 350, 3) := by decide +kernel
theorem dLaw_law_647 : decode uLaw.2.1 647 = .ok (.iconst 0, 1) := by decide +kernel
theorem dLaw_law_648 : decode uLaw.2.1 648 = .ok (.ireturn, 1) := by decide +kernel
theorem dLaw_law_649 : decode uLaw.2.1 649 = .ok (.aload_n 1, 1) := by decide +kernel
theorem dLaw_law_650 : decode uLaw.2.1 650 = .ok (.aload_n 0, 1) := by decide +kernel
theorem dLaw_law_651 : decode uLaw.2.1 651 = .ok (.iload_n 3, 1) := by decide +kernel
theorem dLaw_law_652 : decode uLaw.2.1 652 = .ok (.iconst 1, 1) := by decide +kernel
theorem dLaw_law_653 : decode uLaw.2.1 653 = .ok (.iadd, 1) := by decide +kernel
theorem dLaw_law_654 : decode uLaw.2.1 654 = .ok (.iaload, 1) := by decide +kernel
theorem dLaw_law_655 : decode uLaw.2.1 655 = .ok (.aload_n 0, 1) := by decide +kernel
theorem dLaw_law_656 : decode uLaw.2.1 656 = .ok (.iload_n 3, 1) := by decide +kernel
theorem dLaw_law_657 : decode uLaw.2.1 657 = .ok (.iconst 2, 1) := by decide +kernel
theorem dLaw_law_658 : decode uLaw.2.1 658 = .ok (.iadd, 1) := by decide +kernel
theorem dLaw_law_659 : decode uLaw.2.1 659 = .ok (.iaload, 1) := by decide +kernel
theorem dLaw_law_660 : decode uLaw.2.1 660 = .ok (.aload_n 0, 1) := by decide +kernel
theorem dLaw_law_661 : decode uLaw.2.1 661 = .ok (.iload_n 3, 1) := by decide +kernel
theorem dLaw_law_662 : decode uLaw.2.1 662 = .ok (.iconst 3, 1) := by decide +kernel
theorem dLaw_law_663 : decode uLaw.2.1 663 = .ok (.iadd, 1) := by decide +kernel
theorem dLaw_law_664 : decode uLaw.2.1 664 = .ok (.iaload, 1) := by decide +kernel
theorem dLaw_law_665 : decode uLaw.2.1 665 = .ok (.invokevirtual 64, 3) := by decide +kernel
theorem dLaw_law_668 : decode uLaw.2.1 668 = .ok (.aload_n 2, 1) := by decide +kernel
theorem dLaw_law_669 : decode uLaw.2.1 669 = .ok (.aload_n 0, 1) := by decide +kernel
theorem dLaw_law_670 : decode uLaw.2.1 670 = .ok (.iload_n 3, 1) := by decide +kernel
theorem dLaw_law_671 : decode uLaw.2.1 671 = .ok (.iconst 1, 1) := by decide +kernel
theorem dLaw_law_672 : decode uLaw.2.1 672 = .ok (.iadd, 1) := by decide +kernel
theorem dLaw_law_673 : decode uLaw.2.1 673 = .ok (.iaload, 1) := by decide +kernel
theorem dLaw_law_674 : decode uLaw.2.1 674 = .ok (.aload_n 0, 1) := by decide +kernel
theorem dLaw_law_675 : decode uLaw.2.1 675 = .ok (.iload_n 3, 1) := by decide +kernel
theorem dLaw_law_676 : decode uLaw.2.1 676 = .ok (.iconst 2, 1) := by decide +kernel
theorem dLaw_law_677 : decode uLaw.2.1 677 = .ok (.iadd, 1) := by decide +kernel
theorem dLaw_law_678 : decode uLaw.2.1 678 = .ok (.iaload, 1) := by decide +kernel
theorem dLaw_law_679 : decode uLaw.2.1 679 = .ok (.aload_n 0, 1) := by decide +kernel
theorem dLaw_law_680 : decode uLaw.2.1 680 = .ok (.iload_n 3, 1) := by decide +kernel
theorem dLaw_law_681 : decode uLaw.2.1 681 = .ok (.iconst 3, 1) := by decide +kernel
theorem dLaw_law_682 : decode uLaw.2.1 682 = .ok (.iadd, 1) := by decide +kernel
theorem dLaw_law_683 : decode uLaw.2.1 683 = .ok (.iaload, 1) := by decide +kernel
theorem dLaw_law_684 : decode uLaw.2.1 684 = .ok (.invokevirtual 68, 3) := by decide +kernel
theorem dLaw_law_687 : decode uLaw.2.1 687 = .ok (.if_icmp .eq 307, 3) := by decide +kernel
theorem dLaw_law_690 : decode uLaw.2.1 690 = .ok (.iconst 0, 1) := by decide +kernel
theorem dLaw_law_691 : decode uLaw.2.1 691 = .ok (.ireturn, 1) := by decide +kernel
theorem dLaw_law_692 : decode uLaw.2.1 692 = .ok (.aload_n 1, 1) := by decide +kernel
theorem dLaw_law_693 : decode uLaw.2.1 693 = .ok (.aload_n 0, 1) := by decide +kernel
theorem dLaw_law_694 : decode uLaw.2.1 694 = .ok (.iload_n 3, 1) := by decide +kernel
theorem dLaw_law_695 : decode uLaw.2.1 695 = .ok (.iconst 1, 1) := by decide +kernel
theorem dLaw_law_696 : decode uLaw.2.1 696 = .ok (.iadd, 1) := by decide +kernel
theorem dLaw_law_697 : decode uLaw.2.1 697 = .ok (.iaload, 1) := by decide +kernel
theorem dLaw_law_698 : decode uLaw.2.1 698 = .ok (.aload_n 0, 1) := by decide +kernel
theorem dLaw_law_699 : decode uLaw.2.1 699 = .ok (.iload_n 3, 1) := by decide +kernel
theorem dLaw_law_700 : decode uLaw.2.1 700 = .ok (.iconst 2, 1) := by decide +kernel
theorem dLaw_law_701 : decode uLaw.2.1 701 = .ok (.iadd, 1) := by decide +kernel
theorem dLaw_law_702 : decode uLaw.2.1 702 = .ok (.iaload, 1) := by decide +kernel
theorem dLaw_law_703 : decode uLaw.2.1 703 = .ok (.invokevirtual 69, 3) := by decide +kernel
theorem dLaw_law_706 : decode uLaw.2.1 706 = .ok (.aload_n 2, 1) := by decide +kernel
theorem dLaw_law_707 : decode uLaw.2.1 707 = .ok (.aload_n 0, 1) := by decide +kernel
theorem dLaw_law_708 : decode uLaw.2.1 708 = .ok (.iload_n 3, 1) := by decide +kernel
theorem dLaw_law_709 : decode uLaw.2.1 709 = .ok (.iconst 1, 1) := by decide +kernel
theorem dLaw_law_710 : decode uLaw.2.1 710 = .ok (.iadd, 1) := by decide +kernel
theorem dLaw_law_711 : decode uLaw.2.1 711 = .ok (.iaload, 1) := by decide +kernel
theorem dLaw_law_712 : decode uLaw.2.1 712 = .ok (.aload_n 0, 1) := by decide +kernel
theorem dLaw_law_713 : decode uLaw.2.1 713 = .ok (.iload_n 3, 1) := by decide +kernel
theorem dLaw_law_714 : decode uLaw.2.1 714 = .ok (.iconst 2, 1) := by decide +kernel
theorem dLaw_law_715 : decode uLaw.2.1 715 = .ok (.iadd, 1) := by decide +kernel
theorem dLaw_law_716 : decode uLaw.2.1 716 = .ok (.iaload, 1) := by decide +kernel
theorem dLaw_law_717 : decode uLaw.2.1 717 = .ok (.invokevirtual 72, 3) := by decide +kernel
theorem dLaw_law_720 : decode uLaw.2.1 720 = .ok (.if_icmp .eq 274, 3) := by decide +kernel
theorem dLaw_law_723 : decode uLaw.2.1 723 = .ok (.iconst 0, 1) := by decide +kernel
theorem dLaw_law_724 : decode uLaw.2.1 724 = .ok (.ireturn, 1) := by decide +kernel
theorem dLaw_law_725 : decode uLaw.2.1 725 = .ok (.aload_n 1, 1) := by decide +kernel
theorem dLaw_law_726 : decode uLaw.2.1 726 = .ok (.aload_n 0, 1) := by decide +kernel
theorem dLaw_law_727 : decode uLaw.2.1 727 = .ok (.iload_n 3, 1) := by decide +kernel
theorem dLaw_law_728 : decode uLaw.2.1 728 = .ok (.iconst 1, 1) := by decide +kernel
theorem dLaw_law_729 : decode uLaw.2.1 729 = .ok (.iadd, 1) := by decide +kernel
theorem dLaw_law_730 : decode uLaw.2.1 730 = .ok (.iaload, 1) := by decide +kernel
theorem dLaw_law_731 : decode uLaw.2.1 731 = .ok (.aload_n 0, 1) := by decide +kernel
theorem dLaw_law_732 : decode uLaw.2.1 732 = .ok (.iload_n 3, 1) := by decide +kernel
theorem dLaw_law_733 : decode uLaw.2.1 733 = .ok (.iconst 2, 1) := by decide +kernel
theorem dLaw_law_734 : decode uLaw.2.1 734 = .ok (.iadd, 1) := by decide +kernel
theorem dLaw_law_735 : decode uLaw.2.1 735 = .ok (.iaload, 1) := by decide +kernel
theorem dLaw_law_736 : decode uLaw.2.1 736 = .ok (.aload_n 0, 1) := by decide +kernel
theorem dLaw_law_737 : decode uLaw.2.1 737 = .ok (.iload_n 3, 1) := by decide +kernel
theorem dLaw_law_738 : decode uLaw.2.1 738 = .ok (.iconst 3, 1) := by decide +kernel
theorem dLaw_law_739 : decode uLaw.2.1 739 = .ok (.iadd, 1) := by decide +kernel
theorem dLaw_law_740 : decode uLaw.2.1 740 = .ok (.iaload, 1) := by decide +kernel
theorem dLaw_law_741 : decode uLaw.2.1 741 = .ok (.ifCond .eq 7, 3) := by decide +kernel
theorem dLaw_law_744 : decode uLaw.2.1 744 = .ok (.iconst 1, 1) := by decide +kernel
theorem dLaw_law_745 : decode uLaw.2.1 745 = .ok (.goto 4, 3) := by decide +kernel
theorem dLaw_law_748 : decode uLaw.2.1 748 = .ok (.iconst 0, 1) := by decide +kernel
theorem dLaw_law_749 : decode uLaw.2.1 749 = .ok (.invokevirtual 73, 3) := by decide +kernel
theorem dLaw_law_752 : decode uLaw.2.1 752 = .ok (.aload_n 2, 1) := by decide +kernel
theorem dLaw_law_753 : decode uLaw.2.1 753 = .ok (.aload_n 0, 1) := by decide +kernel
theorem dLaw_law_754 : decode uLaw.2.1 754 = .ok (.iload_n 3, 1) := by decide +kernel
theorem dLaw_law_755 : decode uLaw.2.1 755 = .ok (.iconst 1, 1) := by decide +kernel
theorem dLaw_law_756 : decode uLaw.2.1 756 = .ok (.iadd, 1) := by decide +kernel
theorem dLaw_law_757 : decode uLaw.2.1 757 = .ok (.iaload, 1) := by decide +kernel
theorem dLaw_law_758 : decode uLaw.2.1 758 = .ok (.aload_n 0, 1) := by decide +kernel
theorem dLaw_law_759 : decode uLaw.2.1 759 = .ok (.iload_n 3, 1) := by decide +kernel
theorem dLaw_law_760 : decode uLaw.2.1 760 = .ok (.iconst 2, 1) := by decide +kernel
theorem dLaw_law_761 : decode uLaw.2.1 761 = .ok (.iadd, 1) := by decide +kernel
theorem dLaw_law_762 : decode uLaw.2.1 762 = .ok (.iaload, 1) := by decide +kernel
theorem dLaw_law_763 : decode uLaw.2.1 763 = .ok (.aload_n 0, 1) := by decide +kernel
theorem dLaw_law_764 : decode uLaw.2.1 764 = .ok (.iload_n 3, 1) := by decide +kernel
theorem dLaw_law_765 : decode uLaw.2.1 765 = .ok (.iconst 3, 1) := by decide +kernel
theorem dLaw_law_766 : decode uLaw.2.1 766 = .ok (.iadd, 1) := by decide +kernel
theorem dLaw_law_767 : decode uLaw.2.1 767 = .ok (.iaload, 1) := by decide +kernel
theorem dLaw_law_768 : decode uLaw.2.1 768 = .ok (.ifCond .eq 7, 3) := by decide +kernel
theorem dLaw_law_771 : decode uLaw.2.1 771 = .ok (.iconst 1, 1) := by decide +kernel
theorem dLaw_law_772 : decode uLaw.2.1 772 = .ok (.goto 4, 3) := by decide +kernel
theorem dLaw_law_775 : decode uLaw.2.1 775 = .ok (.iconst 0, 1) := by decide +kernel
theorem dLaw_law_776 : decode uLaw.2.1 776 = .ok (.invokevirtual 77, 3) := by decide +kernel
theorem dLaw_law_779 : decode uLaw.2.1 779 = .ok (.if_icmp .eq 215, 3) := by decide +kernel
theorem dLaw_law_782 : decode uLaw.2.1 782 = .ok (.iconst 0, 1) := by decide +kernel
theorem dLaw_law_783 : decode uLaw.2.1 783 = .ok (.ireturn, 1) := by decide +kernel
theorem dLaw_law_784 : decode uLaw.2.1 784 = .ok (.aload_n 1, 1) := by decide +kernel
theorem dLaw_law_785 : decode uLaw.2.1 785 = .ok (.aload_n 0, 1) := by decide +kernel
theorem dLaw_law_786 : decode uLaw.2.1 786 = .ok (.iload_n 3, 1) := by decide +kernel
theorem dLaw_law_787 : decode uLaw.2.1 787 = .ok (.iconst 1, 1) := by decide +kernel
theorem dLaw_law_788 : decode uLaw.2.1 788 = .ok (.iadd, 1) := by decide +kernel
theorem dLaw_law_789 : decode uLaw.2.1 789 = .ok (.iaload, 1) := by decide +kernel
theorem dLaw_law_790 : decode uLaw.2.1 790 = .ok (.aload_n 0, 1) := by decide +kernel
theorem dLaw_law_791 : decode uLaw.2.1 791 = .ok (.iload_n 3, 1) := by decide +kernel
theorem dLaw_law_792 : decode uLaw.2.1 792 = .ok (.iconst 2, 1) := by decide +kernel
theorem dLaw_law_793 : decode uLaw.2.1 793 = .ok (.iadd, 1) := by decide +kernel
theorem dLaw_law_794 : decode uLaw.2.1 794 = .ok (.iaload, 1) := by decide +kernel
theorem dLaw_law_795 : decode uLaw.2.1 795 = .ok (.aload_n 0, 1) := by decide +kernel
theorem dLaw_law_796 : decode uLaw.2.1 796 = .ok (.iload_n 3, 1) := by decide +kernel
theorem dLaw_law_797 : decode uLaw.2.1 797 = .ok (.iconst 3, 1) := by decide +kernel
theorem dLaw_law_798 : decode uLaw.2.1 798 = .ok (.iadd, 1) := by decide +kernel
theorem dLaw_law_799 : decode uLaw.2.1 799 = .ok (.iaload, 1) := by decide +kernel
theorem dLaw_law_800 : decode uLaw.2.1 800 = .ok (.ifCond .eq 7, 3) := by decide +kernel
theorem dLaw_law_803 : decode uLaw.2.1 803 = .ok (.iconst 1, 1) := by decide +kernel
theorem dLaw_law_804 : decode uLaw.2.1 804 = .ok (.goto 4, 3) := by decide +kernel
theorem dLaw_law_807 : decode uLaw.2.1 807 = .ok (.iconst 0, 1) := by decide +kernel
theorem dLaw_law_808 : decode uLaw.2.1 808 = .ok (.invokevirtual 78, 3) := by decide +kernel
theorem dLaw_law_811 : decode uLaw.2.1 811 = .ok (.aload_n 2, 1) := by decide +kernel
theorem dLaw_law_812 : decode uLaw.2.1 812 = .ok (.aload_n 0, 1) := by decide +kernel
theorem dLaw_law_813 : decode uLaw.2.1 813 = .ok (.iload_n 3, 1) := by decide +kernel
theorem dLaw_law_814 : decode uLaw.2.1 814 = .ok (.iconst 1, 1) := by decide +kernel
theorem dLaw_law_815 : decode uLaw.2.1 815 = .ok (.iadd, 1) := by decide +kernel
theorem dLaw_law_816 : decode uLaw.2.1 816 = .ok (.iaload, 1) := by decide +kernel
theorem dLaw_law_817 : decode uLaw.2.1 817 = .ok (.aload_n 0, 1) := by decide +kernel
theorem dLaw_law_818 : decode uLaw.2.1 818 = .ok (.iload_n 3, 1) := by decide +kernel
theorem dLaw_law_819 : decode uLaw.2.1 819 = .ok (.iconst 2, 1) := by decide +kernel
theorem dLaw_law_820 : decode uLaw.2.1 820 = .ok (.iadd, 1) := by decide +kernel
theorem dLaw_law_821 : decode uLaw.2.1 821 = .ok (.iaload, 1) := by decide +kernel
theorem dLaw_law_822 : decode uLaw.2.1 822 = .ok (.aload_n 0, 1) := by decide +kernel
theorem dLaw_law_823 : decode uLaw.2.1 823 = .ok (.iload_n 3, 1) := by decide +kernel
theorem dLaw_law_824 : decode uLaw.2.1 824 = .ok (.iconst 3, 1) := by decide +kernel
theorem dLaw_law_825 : decode uLaw.2.1 825 = .ok (.iadd, 1) := by decide +kernel
theorem dLaw_law_826 : decode uLaw.2.1 826 = .ok (.iaload, 1) := by decide +kernel
theorem dLaw_law_827 : decode uLaw.2.1 827 = .ok (.ifCond .eq 7, 3) := by decide +kernel
theorem dLaw_law_830 : decode uLaw.2.1 830 = .ok (.iconst 1, 1) := by decide +kernel
theorem dLaw_law_831 : decode uLaw.2.1 831 = .ok (.goto 4, 3) := by decide +kernel
theorem dLaw_law_834 : decode uLaw.2.1 834 = .ok (.iconst 0, 1) := by decide +kernel
theorem dLaw_law_835 : decode uLaw.2.1 835 = .ok (.invokevirtual 81, 3) := by decide +kernel
theorem dLaw_law_838 : decode uLaw.2.1 838 = .ok (.if_icmp .eq 156, 3) := by decide +kernel
theorem dLaw_law_841 : decode uLaw.2.1 841 = .ok (.iconst 0, 1) := by decide +kernel
theorem dLaw_law_842 : decode uLaw.2.1 842 = .ok (.ireturn, 1) := by decide +kernel
theorem dLaw_law_843 : decode uLaw.2.1 843 = .ok (.aload_n 1, 1) := by decide +kernel
theorem dLaw_law_844 : decode uLaw.2.1 844 = .ok (.aload_n 0, 1) := by decide +kernel
theorem dLaw_law_845 : decode uLaw.2.1 845 = .ok (.iload_n 3, 1) := by decide +kernel
theorem dLaw_law_846 : decode uLaw.2.1 846 = .ok (.iconst 1, 1) := by decide +kernel
theorem dLaw_law_847 : decode uLaw.2.1 847 = .ok (.iadd, 1) := by decide +kernel
theorem dLaw_law_848 : decode uLaw.2.1 848 = .ok (.iaload, 1) := by decide +kernel
theorem dLaw_law_849 : decode uLaw.2.1 849 = .ok (.aload_n 0, 1) := by decide +kernel
theorem dLaw_law_850 : decode uLaw.2.1 850 = .ok (.iload_n 3, 1) := by decide +kernel
theorem dLaw_law_851 : decode uLaw.2.1 851 = .ok (.iconst 2, 1) := by decide +kernel
theorem dLaw_law_852 : decode uLaw.2.1 852 = .ok (.iadd, 1) := by decide +kernel
theorem dLaw_law_853 : decode uLaw.2.1 853 = .ok (.iaload, 1) := by decide +kernel
theorem dLaw_law_854 : decode uLaw.2.1 854 = .ok (.aload_n 0, 1) := by decide +kernel
theorem dLaw_law_855 : decode uLaw.2.1 855 = .ok (.iload_n 3, 1) := by decide +kernel
theorem dLaw_law_856 : decode uLaw.2.1 856 = .ok (.iconst 3, 1) := by decide +kernel
theorem dLaw_law_857 : decode uLaw.2.1 857 = .ok (.iadd, 1) := by decide +kernel
theorem dLaw_law_858 : decode uLaw.2.1 858 = .ok (.iaload, 1) := by decide +kernel
theorem dLaw_law_859 : decode uLaw.2.1 859 = .ok (.aload_n 0, 1) := by decide +kernel
theorem dLaw_law_860 : decode uLaw.2.1 860 = .ok (.iload_n 3, 1) := by decide +kernel
theorem dLaw_law_861 : decode uLaw.2.1 861 = .ok (.iconst 4, 1) := by decide +kernel
theorem dLaw_law_862 : decode uLaw.2.1 862 = .ok (.iadd, 1) := by decide +kernel
theorem dLaw_law_863 : decode uLaw.2.1 863 = .ok (.iaload, 1) := by decide +kernel
theorem dLaw_law_864 : decode uLaw.2.1 864 = .ok (.ifCond .eq 7, 3) := by decide +kernel
theorem dLaw_law_867 : decode uLaw.2.1 867 = .ok (.iconst 1, 1) := by decide +kernel
theorem dLaw_law_868 : decode uLaw.2.1 868 = .ok (.goto 4, 3) := by decide +kernel
theorem dLaw_law_871 : decode uLaw.2.1 871 = .ok (.iconst 0, 1) := by decide +kernel
theorem dLaw_law_872 : decode uLaw.2.1 872 = .ok (.invokevirtual 82, 3) := by decide +kernel
theorem dLaw_law_875 : decode uLaw.2.1 875 = .ok (.aload_n 2, 1) := by decide +kernel
theorem dLaw_law_876 : decode uLaw.2.1 876 = .ok (.aload_n 0, 1) := by decide +kernel
theorem dLaw_law_877 : decode uLaw.2.1 877 = .ok (.iload_n 3, 1) := by decide +kernel
theorem dLaw_law_878 : decode uLaw.2.1 878 = .ok (.iconst 1, 1) := by decide +kernel
theorem dLaw_law_879 : decode uLaw.2.1 879 = .ok (.iadd, 1) := by decide +kernel
theorem dLaw_law_880 : decode uLaw.2.1 880 = .ok (.iaload, 1) := by decide +kernel
theorem dLaw_law_881 : decode uLaw.2.1 881 = .ok (.aload_n 0, 1) := by decide +kernel
theorem dLaw_law_882 : decode uLaw.2.1 882 = .ok (.iload_n 3, 1) := by decide +kernel
theorem dLaw_law_883 : decode uLaw.2.1 883 = .ok (.iconst 2, 1) := by decide +kernel
theorem dLaw_law_884 : decode uLaw.2.1 884 = .ok (.iadd, 1) := by decide +kernel
theorem dLaw_law_885 : decode uLaw.2.1 885 = .ok (.iaload, 1) := by decide +kernel
theorem dLaw_law_886 : decode uLaw.2.1 886 = .ok (.aload_n 0, 1) := by decide +kernel
theorem dLaw_law_887 : decode uLaw.2.1 887 = .ok (.iload_n 3, 1) := by decide +kernel
theorem dLaw_law_888 : decode uLaw.2.1 888 = .ok (.iconst 3, 1) := by decide +kernel
theorem dLaw_law_889 : decode uLaw.2.1 889 = .ok (.iadd, 1) := by decide +kernel
theorem dLaw_law_890 : decode uLaw.2.1 890 = .ok (.iaload, 1) := by decide +kernel
theorem dLaw_law_891 : decode uLaw.2.1 891 = .ok (.aload_n 0, 1) := by decide +kernel
theorem dLaw_law_892 : decode uLaw.2.1 892 = .ok (.iload_n 3, 1) := by decide +kernel
theorem dLaw_law_893 : decode uLaw.2.1 893 = .ok (.iconst 4, 1) := by decide +kernel
theorem dLaw_law_894 : decode uLaw.2.1 894 = .ok (.iadd, 1) := by decide +kernel
theorem dLaw_law_895 : decode uLaw.2.1 895 = .ok (.iaload, 1) := by decide +kernel
theorem dLaw_law_896 : decode uLaw.2.1 896 = .ok (.ifCond .eq 7, 3) := by decide +kernel
theorem dLaw_law_899 : decode uLaw.2.1 899 = .ok (.iconst 1, 1) := by decide +kernel
theorem dLaw_law_900 : decode uLaw.2.1 900 = .ok (.goto 4, 3) := by decide +kernel
theorem dLaw_law_903 : decode uLaw.2.1 903 = .ok (.iconst 0, 1) := by decide +kernel
theorem dLaw_law_904 : decode uLaw.2.1 904 = .ok (.invokevirtual 85, 3) := by decide +kernel
theorem dLaw_law_907 : decode uLaw.2.1 907 = .ok (.if_icmp .eq 87, 3) := by decide +kernel
theorem dLaw_law_910 : decode uLaw.2.1 910 = .ok (.iconst 0, 1) := by decide +kernel
theorem dLaw_law_911 : decode uLaw.2.1 911 = .ok (.ireturn, 1) := by decide +kernel
theorem dLaw_law_912 : decode uLaw.2.1 912 = .ok (.aload_n 1, 1) := by decide +kernel
theorem dLaw_law_913 : decode uLaw.2.1 913 = .ok (.aload_n 0, 1) := by decide +kernel
theorem dLaw_law_914 : decode uLaw.2.1 914 = .ok (.iload_n 3, 1) := by decide +kernel
theorem dLaw_law_915 : decode uLaw.2.1 915 = .ok (.iconst 1, 1) := by decide +kernel
theorem dLaw_law_916 : decode uLaw.2.1 916 = .ok (.iadd, 1) := by decide +kernel
theorem dLaw_law_917 : decode uLaw.2.1 917 = .ok (.iaload, 1) := by decide +kernel
theorem dLaw_law_918 : decode uLaw.2.1 918 = .ok (.aload_n 0, 1) := by decide +kernel
theorem dLaw_law_919 : decode uLaw.2.1 919 = .ok (.iload_n 3, 1) := by decide +kernel
theorem dLaw_law_920 : decode uLaw.2.1 920 = .ok (.iconst 2, 1) := by decide +kernel
theorem dLaw_law_921 : decode uLaw.2.1 921 = .ok (.iadd, 1) := by decide +kernel
theorem dLaw_law_922 : decode uLaw.2.1 922 = .ok (.iaload, 1) := by decide +kernel
theorem dLaw_law_923 : decode uLaw.2.1 923 = .ok (.ifCond .eq 7, 3) := by decide +kernel
theorem dLaw_law_926 : decode uLaw.2.1 926 = .ok (.iconst 1, 1) := by decide +kernel
theorem dLaw_law_927 : decode uLaw.2.1 927 = .ok (.goto 4, 3) := by decide +kernel
theorem dLaw_law_930 : decode uLaw.2.1 930 = .ok (.iconst 0, 1) := by decide +kernel
theorem dLaw_law_931 : decode uLaw.2.1 931 = .ok (.aload_n 0, 1) := by decide +kernel
theorem dLaw_law_932 : decode uLaw.2.1 932 = .ok (.iload_n 3, 1) := by decide +kernel
theorem dLaw_law_933 : decode uLaw.2.1 933 = .ok (.iconst 3, 1) := by decide +kernel
theorem dLaw_law_934 : decode uLaw.2.1 934 = .ok (.iadd, 1) := by decide +kernel
theorem dLaw_law_935 : decode uLaw.2.1 935 = .ok (.iaload, 1) := by decide +kernel
theorem dLaw_law_936 : decode uLaw.2.1 936 = .ok (.invokevirtual 86, 3) := by decide +kernel
theorem dLaw_law_939 : decode uLaw.2.1 939 = .ok (.aload_n 2, 1) := by decide +kernel
theorem dLaw_law_940 : decode uLaw.2.1 940 = .ok (.aload_n 0, 1) := by decide +kernel
theorem dLaw_law_941 : decode uLaw.2.1 941 = .ok (.iload_n 3, 1) := by decide +kernel
theorem dLaw_law_942 : decode uLaw.2.1 942 = .ok (.iconst 1, 1) := by decide +kernel
theorem dLaw_law_943 : decode uLaw.2.1 943 = .ok (.iadd, 1) := by decide +kernel
theorem dLaw_law_944 : decode uLaw.2.1 944 = .ok (.iaload, 1) := by decide +kernel
theorem dLaw_law_945 : decode uLaw.2.1 945 = .ok (.aload_n 0, 1) := by decide +kernel
theorem dLaw_law_946 : decode uLaw.2.1 946 = .ok (.iload_n 3, 1) := by decide +kernel
theorem dLaw_law_947 : decode uLaw.2.1 947 = .ok (.iconst 2, 1) := by decide +kernel
theorem dLaw_law_948 : decode uLaw.2.1 948 = .ok (.iadd, 1) := by decide +kernel
theorem dLaw_law_949 : decode uLaw.2.1 949 = .ok (.iaload, 1) := by decide +kernel
theorem dLaw_law_950 : decode uLaw.2.1 950 = .ok (.ifCond .eq 7, 3) := by decide +kernel
theorem dLaw_law_953 : decode uLaw.2.1 953 = .ok (.iconst 1, 1) := by decide +kernel
theorem dLaw_law_954 : decode uLaw.2.1 954 = .ok (.goto 4, 3) := by decide +kernel
theorem dLaw_law_957 : decode uLaw.2.1 957 = .ok (.iconst 0, 1) := by decide +kernel
theorem dLaw_law_958 : decode uLaw.2.1 958 = .ok (.aload_n 0, 1) := by decide +kernel
theorem dLaw_law_959 : decode uLaw.2.1 959 = .ok (.iload_n 3, 1) := by decide +kernel
theorem dLaw_law_960 : decode uLaw.2.1 960 = .ok (.iconst 3, 1) := by decide +kernel
theorem dLaw_law_961 : decode uLaw.2.1 961 = .ok (.iadd, 1) := by decide +kernel
theorem dLaw_law_962 : decode uLaw.2.1 962 = .ok (.iaload, 1) := by decide +kernel
theorem dLaw_law_963 : decode uLaw.2.1 963 = .ok (.invokevirtual 90, 3) := by decide +kernel
theorem dLaw_law_966 : decode uLaw.2.1 966 = .ok (.if_icmp .eq 28, 3) := by decide +kernel
theorem dLaw_law_969 : decode uLaw.2.1 969 = .ok (.iconst 0, 1) := by decide +kernel
theorem dLaw_law_970 : decode uLaw.2.1 970 = .ok (.ireturn, 1) := by decide +kernel
theorem dLaw_law_971 : decode uLaw.2.1 971 = .ok (.aload_n 1, 1) := by decide +kernel
theorem dLaw_law_972 : decode uLaw.2.1 972 = .ok (.aload_n 0, 1) := by decide +kernel
theorem dLaw_law_973 : decode uLaw.2.1 973 = .ok (.iload_n 3, 1) := by decide +kernel
theorem dLaw_law_974 : decode uLaw.2.1 974 = .ok (.iconst 1, 1) := by decide +kernel
theorem dLaw_law_975 : decode uLaw.2.1 975 = .ok (.iadd, 1) := by decide +kernel
theorem dLaw_law_976 : decode uLaw.2.1 976 = .ok (.iaload, 1) := by decide +kernel
theorem dLaw_law_977 : decode uLaw.2.1 977 = .ok (.invokevirtual 91, 3) := by decide +kernel
theorem dLaw_law_980 : decode uLaw.2.1 980 = .ok (.aload_n 2, 1) := by decide +kernel
theorem dLaw_law_981 : decode uLaw.2.1 981 = .ok (.aload_n 0, 1) := by decide +kernel
theorem dLaw_law_982 : decode uLaw.2.1 982 = .ok (.iload_n 3, 1) := by decide +kernel
theorem dLaw_law_983 : decode uLaw.2.1 983 = .ok (.iconst 1, 1) := by decide +kernel
theorem dLaw_law_984 : decode uLaw.2.1 984 = .ok (.iadd, 1) := by decide +kernel
theorem dLaw_law_985 : decode uLaw.2.1 985 = .ok (.iaload, 1) := by decide +kernel
theorem dLaw_law_986 : decode uLaw.2.1 986 = .ok (.invokevirtual 94, 3) := by decide +kernel
theorem dLaw_law_989 : decode uLaw.2.1 989 = .ok (.if_icmp .eq 5, 3) := by decide +kernel
theorem dLaw_law_992 : decode uLaw.2.1 992 = .ok (.iconst 0, 1) := by decide +kernel
theorem dLaw_law_993 : decode uLaw.2.1 993 = .ok (.ireturn, 1) := by decide +kernel
theorem dLaw_law_994 : decode uLaw.2.1 994 = .ok (.iinc 3 7, 3) := by decide +kernel
theorem dLaw_law_997 : decode uLaw.2.1 997 = .ok (.goto (-979), 3) := by decide +kernel
theorem dLaw_law_1000 : decode uLaw.2.1 1000 = .ok (.iconst 1, 1) := by decide +kernel
theorem dLaw_law_1001 : decode uLaw.2.1 1001 = .ok (.ireturn, 1) := by decide +kernel
theorem cs_Law_13 : cV "InterleavedLinkLaw" 13 uLink_header 4 := ⟨⟨Or.inl (gW_in 365 (by decide +kernel) rfl), (gW_in 64 (by decide +kernel) rfl), (gW_in 368 (by decide +kernel) rfl), ⟨by decide, by decide⟩, by decide +kernel⟩, (gW_in 366 (by decide +kernel) rfl), (gW_in 367 (by decide +kernel) rfl)⟩
theorem cs_Law_17 : cV "InterleavedLinkLaw" 17 uMod_header 4 := ⟨⟨Or.inl (gW_in 1174 (by decide +kernel) rfl), (gW_in 74 (by decide +kernel) rfl), (gW_in 1177 (by decide +kernel) rfl), ⟨by decide, by decide⟩, by decide +kernel⟩, (gW_in 1175 (by decide +kernel) rfl), (gW_in 1176 (by decide +kernel) rfl)⟩
theorem cs_Law_18 : cV "InterleavedLinkLaw" 18 uLink_request 1 := ⟨⟨Or.inl (gW_in 384 (by decide +kernel) rfl), (gW_in 64 (by decide +kernel) rfl), (gW_in 387 (by decide +kernel) rfl), ⟨by decide, by decide⟩, by decide +kernel⟩, (gW_in 385 (by decide +kernel) rfl), (gW_in 386 (by decide +kernel) rfl)⟩
theorem cs_Law_22 : cV "InterleavedLinkLaw" 22 uMod_request 1 := ⟨⟨Or.inl (gW_in 1182 (by decide +kernel) rfl), (gW_in 74 (by decide +kernel) rfl), (gW_in 1185 (by decide +kernel) rfl), ⟨by decide, by decide⟩, by decide +kernel⟩, (gW_in 1183 (by decide +kernel) rfl), (gW_in 1184 (by decide +kernel) rfl)⟩
theorem cs_Law_23 : cV "InterleavedLinkLaw" 23 uLink_respond 2 := ⟨⟨Or.inl (gW_in 556 (by decide +kernel) rfl), (gW_in 64 (by decide +kernel) rfl), (gW_in 559 (by decide +kernel) rfl), ⟨by decide, by decide⟩, by decide +kernel⟩, (gW_in 557 (by decide +kernel) rfl), (gW_in 558 (by decide +kernel) rfl)⟩
theorem cs_Law_27 : cV "InterleavedLinkLaw" 27 uMod_respond 2 := ⟨⟨Or.inl (gW_in 1202 (by decide +kernel) rfl), (gW_in 74 (by decide +kernel) rfl), (gW_in 1205 (by decide +kernel) rfl), ⟨by decide, by decide⟩, by decide +kernel⟩, (gW_in 1203 (by decide +kernel) rfl), (gW_in 1204 (by decide +kernel) rfl)⟩
theorem lc_Law_28 : Cond.constantLong "InterleavedLinkLaw" 28 4294967295 ∈ gW := gW_in 1272 (by decide +kernel) rfl
theorem cs_Law_30 : cV "InterleavedLinkLaw" 30 uLink_write 5 := ⟨⟨Or.inl (gW_in 569 (by decide +kernel) rfl), (gW_in 64 (by decide +kernel) rfl), (gW_in 572 (by decide +kernel) rfl), ⟨by decide, by decide⟩, by decide +kernel⟩, (gW_in 570 (by decide +kernel) rfl), (gW_in 571 (by decide +kernel) rfl)⟩
theorem cs_Law_34 : cV "InterleavedLinkLaw" 34 uMod_write 5 := ⟨⟨Or.inl (gW_in 1206 (by decide +kernel) rfl), (gW_in 74 (by decide +kernel) rfl), (gW_in 1209 (by decide +kernel) rfl), ⟨by decide, by decide⟩, by decide +kernel⟩, (gW_in 1207 (by decide +kernel) rfl), (gW_in 1208 (by decide +kernel) rfl)⟩
theorem cs_Law_35 : cV "InterleavedLinkLaw" 35 uLink_pump 2 := ⟨⟨Or.inl (gW_in 577 (by decide +kernel) rfl), (gW_in 64 (by decide +kernel) rfl), (gW_in 580 (by decide +kernel) rfl), ⟨by decide, by decide⟩, by decide +kernel⟩, (gW_in 578 (by decide +kernel) rfl), (gW_in 579 (by decide +kernel) rfl)⟩
theorem cs_Law_39 : cV "InterleavedLinkLaw" 39 uMod_pump 2 := ⟨⟨Or.inl (gW_in 1210 (by decide +kernel) rfl), (gW_in 74 (by decide +kernel) rfl), (gW_in 1213 (by decide +kernel) rfl), ⟨by decide, by decide⟩, by decide +kernel⟩, (gW_in 1211 (by decide +kernel) rfl), (gW_in 1212 (by decide +kernel) rfl)⟩
theorem cs_Law_40 : cV "InterleavedLinkLaw" 40 uLink_read 3 := ⟨⟨Or.inl (gW_in 628 (by decide +kernel) rfl), (gW_in 64 (by decide +kernel) rfl), (gW_in 631 (by decide +kernel) rfl), ⟨by decide, by decide⟩, by decide +kernel⟩, (gW_in 629 (by decide +kernel) rfl), (gW_in 630 (by decide +kernel) rfl)⟩
theorem cs_Law_44 : cV "InterleavedLinkLaw" 44 uMod_read 3 := ⟨⟨Or.inl (gW_in 1222 (by decide +kernel) rfl), (gW_in 74 (by decide +kernel) rfl), (gW_in 1225 (by decide +kernel) rfl), ⟨by decide, by decide⟩, by decide +kernel⟩, (gW_in 1223 (by decide +kernel) rfl), (gW_in 1224 (by decide +kernel) rfl)⟩
theorem cs_Law_45 : cV "InterleavedLinkLaw" 45 uLink_reset 3 := ⟨⟨Or.inl (gW_in 649 (by decide +kernel) rfl), (gW_in 64 (by decide +kernel) rfl), (gW_in 652 (by decide +kernel) rfl), ⟨by decide, by decide⟩, by decide +kernel⟩, (gW_in 650 (by decide +kernel) rfl), (gW_in 651 (by decide +kernel) rfl)⟩
theorem cs_Law_49 : cV "InterleavedLinkLaw" 49 uMod_reset 3 := ⟨⟨Or.inl (gW_in 1228 (by decide +kernel) rfl), (gW_in 74 (by decide +kernel) rfl), (gW_in 1231 (by decide +kernel) rfl), ⟨by decide, by decide⟩, by decide +kernel⟩, (gW_in 1229 (by decide +kernel) rfl), (gW_in 1230 (by decide +kernel) rfl)⟩
theorem cs_Law_50 : cV "InterleavedLinkLaw" 50 uLink_setting 3 := ⟨⟨Or.inl (gW_in 669 (by decide +kernel) rfl), (gW_in 64 (by decide +kernel) rfl), (gW_in 672 (by decide +kernel) rfl), ⟨by decide, by decide⟩, by decide +kernel⟩, (gW_in 670 (by decide +kernel) rfl), (gW_in 671 (by decide +kernel) rfl)⟩
theorem cs_Law_53 : cV "InterleavedLinkLaw" 53 uMod_setting 3 := ⟨⟨Or.inl (gW_in 1232 (by decide +kernel) rfl), (gW_in 74 (by decide +kernel) rfl), (gW_in 1235 (by decide +kernel) rfl), ⟨by decide, by decide⟩, by decide +kernel⟩, (gW_in 1233 (by decide +kernel) rfl), (gW_in 1234 (by decide +kernel) rfl)⟩
theorem cs_Law_54 : cV "InterleavedLinkLaw" 54 uLink_deliver 1 := ⟨⟨Or.inl (gW_in 687 (by decide +kernel) rfl), (gW_in 64 (by decide +kernel) rfl), (gW_in 690 (by decide +kernel) rfl), ⟨by decide, by decide⟩, by decide +kernel⟩, (gW_in 688 (by decide +kernel) rfl), (gW_in 689 (by decide +kernel) rfl)⟩
theorem cs_Law_58 : cV "InterleavedLinkLaw" 58 uMod_deliver 1 := ⟨⟨Or.inl (gW_in 1031 (by decide +kernel) rfl), (gW_in 74 (by decide +kernel) rfl), (gW_in 1034 (by decide +kernel) rfl), ⟨by decide, by decide⟩, by decide +kernel⟩, (gW_in 1032 (by decide +kernel) rfl), (gW_in 1033 (by decide +kernel) rfl)⟩
theorem cs_Law_59 : cV "InterleavedLinkLaw" 59 uLink_inject 5 := ⟨⟨Or.inl (gW_in 804 (by decide +kernel) rfl), (gW_in 64 (by decide +kernel) rfl), (gW_in 807 (by decide +kernel) rfl), ⟨by decide, by decide⟩, by decide +kernel⟩, (gW_in 805 (by decide +kernel) rfl), (gW_in 806 (by decide +kernel) rfl)⟩
theorem cs_Law_63 : cV "InterleavedLinkLaw" 63 uMod_inject 5 := ⟨⟨Or.inl (gW_in 1236 (by decide +kernel) rfl), (gW_in 74 (by decide +kernel) rfl), (gW_in 1239 (by decide +kernel) rfl), ⟨by decide, by decide⟩, by decide +kernel⟩, (gW_in 1237 (by decide +kernel) rfl), (gW_in 1238 (by decide +kernel) rfl)⟩
theorem cs_Law_64 : cV "InterleavedLinkLaw" 64 uLink_frame 3 := ⟨⟨Or.inl (gW_in 822 (by decide +kernel) rfl), (gW_in 64 (by decide +kernel) rfl), (gW_in 825 (by decide +kernel) rfl), ⟨by decide, by decide⟩, by decide +kernel⟩, (gW_in 823 (by decide +kernel) rfl), (gW_in 824 (by decide +kernel) rfl)⟩
theorem cs_Law_68 : cV "InterleavedLinkLaw" 68 uMod_frame 3 := ⟨⟨Or.inl (gW_in 1240 (by decide +kernel) rfl), (gW_in 74 (by decide +kernel) rfl), (gW_in 1243 (by decide +kernel) rfl), ⟨by decide, by decide⟩, by decide +kernel⟩, (gW_in 1241 (by decide +kernel) rfl), (gW_in 1242 (by decide +kernel) rfl)⟩
theorem cs_Law_69 : cV "InterleavedLinkLaw" 69 uLink_state 2 := ⟨⟨Or.inl (gW_in 831 (by decide +kernel) rfl), (gW_in 64 (by decide +kernel) rfl), (gW_in 834 (by decide +kernel) rfl), ⟨by decide, by decide⟩, by decide +kernel⟩, (gW_in 832 (by decide +kernel) rfl), (gW_in 833 (by decide +kernel) rfl)⟩
theorem cs_Law_72 : cV "InterleavedLinkLaw" 72 uMod_state 2 := ⟨⟨Or.inl (gW_in 1244 (by decide +kernel) rfl), (gW_in 74 (by decide +kernel) rfl), (gW_in 1247 (by decide +kernel) rfl), ⟨by decide, by decide⟩, by decide +kernel⟩, (gW_in 1245 (by decide +kernel) rfl), (gW_in 1246 (by decide +kernel) rfl)⟩
theorem cs_Law_73 : cV "InterleavedLinkLaw" 73 uLink_window 3 := ⟨⟨Or.inl (gW_in 835 (by decide +kernel) rfl), (gW_in 64 (by decide +kernel) rfl), (gW_in 838 (by decide +kernel) rfl), ⟨by decide, by decide⟩, by decide +kernel⟩, (gW_in 836 (by decide +kernel) rfl), (gW_in 837 (by decide +kernel) rfl)⟩
theorem cs_Law_77 : cV "InterleavedLinkLaw" 77 uMod_window 3 := ⟨⟨Or.inl (gW_in 1248 (by decide +kernel) rfl), (gW_in 74 (by decide +kernel) rfl), (gW_in 1251 (by decide +kernel) rfl), ⟨by decide, by decide⟩, by decide +kernel⟩, (gW_in 1249 (by decide +kernel) rfl), (gW_in 1250 (by decide +kernel) rfl)⟩
theorem cs_Law_78 : cV "InterleavedLinkLaw" 78 uLink_bytes 3 := ⟨⟨Or.inl (gW_in 839 (by decide +kernel) rfl), (gW_in 64 (by decide +kernel) rfl), (gW_in 842 (by decide +kernel) rfl), ⟨by decide, by decide⟩, by decide +kernel⟩, (gW_in 840 (by decide +kernel) rfl), (gW_in 841 (by decide +kernel) rfl)⟩
theorem cs_Law_81 : cV "InterleavedLinkLaw" 81 uMod_bytes 3 := ⟨⟨Or.inl (gW_in 1252 (by decide +kernel) rfl), (gW_in 74 (by decide +kernel) rfl), (gW_in 1255 (by decide +kernel) rfl), ⟨by decide, by decide⟩, by decide +kernel⟩, (gW_in 1253 (by decide +kernel) rfl), (gW_in 1254 (by decide +kernel) rfl)⟩
theorem cs_Law_82 : cV "InterleavedLinkLaw" 82 uLink_field 4 := ⟨⟨Or.inl (gW_in 843 (by decide +kernel) rfl), (gW_in 64 (by decide +kernel) rfl), (gW_in 846 (by decide +kernel) rfl), ⟨by decide, by decide⟩, by decide +kernel⟩, (gW_in 844 (by decide +kernel) rfl), (gW_in 845 (by decide +kernel) rfl)⟩
theorem cs_Law_85 : cV "InterleavedLinkLaw" 85 uMod_field 4 := ⟨⟨Or.inl (gW_in 1260 (by decide +kernel) rfl), (gW_in 74 (by decide +kernel) rfl), (gW_in 1263 (by decide +kernel) rfl), ⟨by decide, by decide⟩, by decide +kernel⟩, (gW_in 1261 (by decide +kernel) rfl), (gW_in 1262 (by decide +kernel) rfl)⟩
theorem cs_Law_86 : cV "InterleavedLinkLaw" 86 uLink_table 3 := ⟨⟨Or.inl (gW_in 847 (by decide +kernel) rfl), (gW_in 64 (by decide +kernel) rfl), (gW_in 850 (by decide +kernel) rfl), ⟨by decide, by decide⟩, by decide +kernel⟩, (gW_in 848 (by decide +kernel) rfl), (gW_in 849 (by decide +kernel) rfl)⟩
theorem cs_Law_90 : cV "InterleavedLinkLaw" 90 uMod_table 3 := ⟨⟨Or.inl (gW_in 1264 (by decide +kernel) rfl), (gW_in 74 (by decide +kernel) rfl), (gW_in 1267 (by decide +kernel) rfl), ⟨by decide, by decide⟩, by decide +kernel⟩, (gW_in 1265 (by decide +kernel) rfl), (gW_in 1266 (by decide +kernel) rfl)⟩
theorem cs_Law_91 : cV "InterleavedLinkLaw" 91 uLink_down 1 := ⟨⟨Or.inl (gW_in 851 (by decide +kernel) rfl), (gW_in 64 (by decide +kernel) rfl), (gW_in 854 (by decide +kernel) rfl), ⟨by decide, by decide⟩, by decide +kernel⟩, (gW_in 852 (by decide +kernel) rfl), (gW_in 853 (by decide +kernel) rfl)⟩
theorem cs_Law_94 : cV "InterleavedLinkLaw" 94 uMod_down 1 := ⟨⟨Or.inl (gW_in 1268 (by decide +kernel) rfl), (gW_in 74 (by decide +kernel) rfl), (gW_in 1271 (by decide +kernel) rfl), ⟨by decide, by decide⟩, by decide +kernel⟩, (gW_in 1269 (by decide +kernel) rfl), (gW_in 1270 (by decide +kernel) rfl)⟩
/-! ===== the law's loop, over a contract for each pair of calls ===== -/
def bz (x : Int32) : Int32 := if x = 0 then 0 else 1
theorem bz_z (x : Int32) : bz x = 0 ∨ bz x = 1 := by unfold bz; split; exact Or.inl rfl; exact Or.inr rfl
theorem g_bz {X : mX} {l : Launch} {u : mU} {rm : Room} {bc bs : Nat} {M : mM} {ls : List (Option Value)} {st : List Value} {Q : Option Value → mM → Prop} (pc A B : Nat) {x : Int32} {o1 o2 : Int} (d1 : decode u.2.1 pc = .ok (.ifCond .eq o1, 3)) (d2 : decode u.2.1 (pc + 3) = .ok (.iconst 1, 1)) (d3 : decode u.2.1 (pc + 4) = .ok (.goto o2, 3)) (d4 : decode u.2.1 A = .ok (.iconst 0, 1)) (t1 : (pc : Int) + o1 = (A : Int)) (t2 : ((pc + 4 : Nat) : Int) + o2 = (B : Int)) (t3 : A + 1 = B)
    (k : G X l u rm bc bs M B ls (.int (bz x) :: st) Q) : G X l u rm bc bs M pc ls (.int x :: st) Q := by
  refine g_if_eq pc A d1 t1 (fun h => ?_) (fun h => ?_)
  · refine g_iconst A 0 d4 rfl ?_
    rw [t3]
    have e : bz x = 0 := if_pos h
    rw [← e]
    exact k
  · refine g_iconst (pc + 3) 1 d2 rfl ?_
    refine g_goto (pc + 4) B d3 t2 ?_
    have e : bz x = 1 := if_neg h
    rw [← e]
    exact k
theorem lg_self (x : Int64) : lg_cmp x x = 0 := by simp [lg_cmp]
set_option maxRecDepth 100000 in
theorem mi_link : (mT mi 3).1 = 0 := by decide +kernel
theorem Shp.link {M : mM} (h : Shp M) : (mT M 3).1 = 0 := by rw [h.2.1 3 (by decide)]; exact mi_link
/-- the class's answer is the reference's, and J holds behind both -/
def Prx (X : mX) (l : Launch) (uC uM : mU) (as : List Value) (M : mM) (J : mM → Prop) : Prop := ∃ rC rM : Room, (rC.frames ≤ 8 ∧ rC.locals ≤ 200 ∧ rC.cells ≤ 40 ∧ rC.slots ≤ 400) ∧ (rM.frames ≤ 8 ∧ rM.locals ≤ 200 ∧ rM.cells = 0 ∧ rM.slots = 0) ∧ Ct X l uC rC (.ref 3 :: as) M (fun r M1 => ∃ v : Int32, r = some (.int v) ∧ Shp M1 ∧ Ct X l uM rM (.ref 169 :: as) M1 (fun r' M2 => r' = some (.int v) ∧ J M2))
def Prl (X : mX) (l : Launch) (uC uM : mU) (as : List Value) (M : mM) (J : mM → Prop) : Prop := ∃ rC rM : Room, (rC.frames ≤ 8 ∧ rC.locals ≤ 200 ∧ rC.cells ≤ 40 ∧ rC.slots ≤ 400) ∧ (rM.frames ≤ 8 ∧ rM.locals ≤ 200 ∧ rM.cells = 0 ∧ rM.slots = 0) ∧ Ct X l uC rC (.ref 3 :: as) M (fun r M1 => ∃ v : Int64, r = some (.long v) ∧ Shp M1 ∧ Ct X l uM rM (.ref 169 :: as) M1 (fun r' M2 => r' = some (.long v) ∧ J M2))
/-- the number that the law makes of two ints of the script -/
def lng (a b : Int32) : Int64 := a.toInt64 <<< ((32 : Int32).toInt64 &&& 63) ||| b.toInt64 &&& 4294967295
set_option maxRecDepth 100000 in
set_option maxHeartbeats 4000000 in
theorem g_law_0 {X : mX} {l : Launch} {M : mM} {i bc bs bc0 bs0 : Nat} {J : mM → Prop} {Q : Option Value → mM → Prop} (hL : xL X 0 ≤ 3584) (hi : i + 6 < xL X 0) (h1 : bc0 + 40 ≤ bc) (h2 : bs0 + 400 ≤ bs) (hS : Shp M) (hp : Prx X l uLink_header uMod_header [.int (xI X 0 (i + 1)), .int (xI X 0 (i + 2)), .int (xI X 0 (i + 3)), .int (bz (xI X 0 (i + 4)))] M J) (ih : ∀ M2, J M2 → G X l uLaw room_1 bc0 bs0 M2 994 [some (.ref 0), some (.ref 3), some (.ref 169), some (.int (nI i))] [] Q) : G X l uLaw room_1 bc bs M 116 [some (.ref 0), some (.ref 3), some (.ref 169), some (.int (nI i))] [] Q := by
  obtain ⟨rC, rM, ⟨c1, c2, c3, c4⟩, ⟨m1, m2, m3, m4⟩, hC⟩ := hp
  refine g_aload_n 116 dLaw_law_116 rfl ?_
  refine g_aload_n 117 dLaw_law_117 rfl ?_
  refine g_iload_n 118 dLaw_law_118 rfl ?_
  refine g_iconst 119 (nI 1) dLaw_law_119 rfl ?_
  refine g_iaddN 120 dLaw_law_120 ?_
  refine g_oaldN 121 (by decide) dLaw_law_121 (by omega) (by omega) ?_
  refine g_aload_n 122 dLaw_law_122 rfl ?_
  refine g_iload_n 123 dLaw_law_123 rfl ?_
  refine g_iconst 124 (nI 2) dLaw_law_124 rfl ?_
  refine g_iaddN 125 dLaw_law_125 ?_
  refine g_oaldN 126 (by decide) dLaw_law_126 (by omega) (by omega) ?_
  refine g_aload_n 127 dLaw_law_127 rfl ?_
  refine g_iload_n 128 dLaw_law_128 rfl ?_
  refine g_iconst 129 (nI 3) dLaw_law_129 rfl ?_
  refine g_iaddN 130 dLaw_law_130 ?_
  refine g_oaldN 131 (by decide) dLaw_law_131 (by omega) (by omega) ?_
  refine g_aload_n 132 dLaw_law_132 rfl ?_
  refine g_iload_n 133 dLaw_law_133 rfl ?_
  refine g_iconst 134 (nI 4) dLaw_law_134 rfl ?_
  refine g_iaddN 135 dLaw_law_135 ?_
  refine g_oaldN 136 (by decide) dLaw_law_136 (by omega) (by omega) ?_
  refine g_bz 137 144 145 dLaw_law_137 dLaw_law_140 dLaw_law_141 dLaw_law_144 rfl rfl rfl ?_
  refine g_callV 145 [_, _, _, _] dLaw_law_145 cs_Law_13 rfl (ci := 0) rfl (by decide) hS.link rfl ⟨by show rC.frames + 1 ≤ 10; omega, by show 8 + (6 + 11) + rC.locals ≤ 362; omega⟩ (Nat.le_of_ble_eq_true rfl) hC (by omega) (by omega) ?_
  rintro _ M1 ⟨v, rfl, hS1, hM⟩
  refine g_aload_n 148 dLaw_law_148 rfl ?_
  refine g_aload_n 149 dLaw_law_149 rfl ?_
  refine g_iload_n 150 dLaw_law_150 rfl ?_
  refine g_iconst 151 (nI 1) dLaw_law_151 rfl ?_
  refine g_iaddN 152 dLaw_law_152 ?_
  refine g_oaldN 153 (by decide) dLaw_law_153 (by omega) (by omega) ?_
  refine g_aload_n 154 dLaw_law_154 rfl ?_
  refine g_iload_n 155 dLaw_law_155 rfl ?_
  refine g_iconst 156 (nI 2) dLaw_law_156 rfl ?_
  refine g_iaddN 157 dLaw_law_157 ?_
  refine g_oaldN 158 (by decide) dLaw_law_158 (by omega) (by omega) ?_
  refine g_aload_n 159 dLaw_law_159 rfl ?_
  refine g_iload_n 160 dLaw_law_160 rfl ?_
  refine g_iconst 161 (nI 3) dLaw_law_161 rfl ?_
  refine g_iaddN 162 dLaw_law_162 ?_
  refine g_oaldN 163 (by decide) dLaw_law_163 (by omega) (by omega) ?_
  refine g_aload_n 164 dLaw_law_164 rfl ?_
  refine g_iload_n 165 dLaw_law_165 rfl ?_
  refine g_iconst 166 (nI 4) dLaw_law_166 rfl ?_
  refine g_iaddN 167 dLaw_law_167 ?_
  refine g_oaldN 168 (by decide) dLaw_law_168 (by omega) (by omega) ?_
  refine g_bz 169 176 177 dLaw_law_169 dLaw_law_172 dLaw_law_173 dLaw_law_176 rfl rfl rfl ?_
  refine g_callV 177 [_, _, _, _] dLaw_law_177 cs_Law_17 rfl (ci := 10) rfl (by decide) hS1.mod rfl ⟨by show rM.frames + 1 ≤ 10; omega, by show 8 + (6 + 11) + rM.locals ≤ 362; omega⟩ (Nat.le_of_ble_eq_true rfl) hM (by omega) (by omega) ?_
  rintro _ M2 ⟨rfl, hJ⟩
  refine g_icmp_eq 180 994 dLaw_law_180 rfl (fun _ => ?_) (fun h => absurd rfl h)
  exact G.bud bc0 bs0 (by omega) (by omega) (ih M2 hJ)
set_option maxRecDepth 100000 in
set_option maxHeartbeats 4000000 in
theorem g_law_1 {X : mX} {l : Launch} {M : mM} {i bc bs bc0 bs0 : Nat} {J : mM → Prop} {Q : Option Value → mM → Prop} (hL : xL X 0 ≤ 3584) (hi : i + 6 < xL X 0) (h1 : bc0 + 40 ≤ bc) (h2 : bs0 + 400 ≤ bs) (hS : Shp M) (hp : Prx X l uLink_request uMod_request [.int (bz (xI X 0 (i + 1)))] M J) (ih : ∀ M2, J M2 → G X l uLaw room_1 bc0 bs0 M2 994 [some (.ref 0), some (.ref 3), some (.ref 169), some (.int (nI i))] [] Q) : G X l uLaw room_1 bc bs M 185 [some (.ref 0), some (.ref 3), some (.ref 169), some (.int (nI i))] [] Q := by
  obtain ⟨rC, rM, ⟨c1, c2, c3, c4⟩, ⟨m1, m2, m3, m4⟩, hC⟩ := hp
  refine g_aload_n 185 dLaw_law_185 rfl ?_
  refine g_aload_n 186 dLaw_law_186 rfl ?_
  refine g_iload_n 187 dLaw_law_187 rfl ?_
  refine g_iconst 188 (nI 1) dLaw_law_188 rfl ?_
  refine g_iaddN 189 dLaw_law_189 ?_
  refine g_oaldN 190 (by decide) dLaw_law_190 (by omega) (by omega) ?_
  refine g_bz 191 198 199 dLaw_law_191 dLaw_law_194 dLaw_law_195 dLaw_law_198 rfl rfl rfl ?_
  refine g_callV 199 [_] dLaw_law_199 cs_Law_18 rfl (ci := 0) rfl (by decide) hS.link rfl ⟨by show rC.frames + 1 ≤ 10; omega, by show 8 + (3 + 11) + rC.locals ≤ 362; omega⟩ (Nat.le_of_ble_eq_true rfl) hC (by omega) (by omega) ?_
  rintro _ M1 ⟨v, rfl, hS1, hM⟩
  refine g_aload_n 202 dLaw_law_202 rfl ?_
  refine g_aload_n 203 dLaw_law_203 rfl ?_
  refine g_iload_n 204 dLaw_law_204 rfl ?_
  refine g_iconst 205 (nI 1) dLaw_law_205 rfl ?_
  refine g_iaddN 206 dLaw_law_206 ?_
  refine g_oaldN 207 (by decide) dLaw_law_207 (by omega) (by omega) ?_
  refine g_bz 208 215 216 dLaw_law_208 dLaw_law_211 dLaw_law_212 dLaw_law_215 rfl rfl rfl ?_
  refine g_callV 216 [_] dLaw_law_216 cs_Law_22 rfl (ci := 10) rfl (by decide) hS1.mod rfl ⟨by show rM.frames + 1 ≤ 10; omega, by show 8 + (3 + 11) + rM.locals ≤ 362; omega⟩ (Nat.le_of_ble_eq_true rfl) hM (by omega) (by omega) ?_
  rintro _ M2 ⟨rfl, hJ⟩
  refine g_icmp_eq 219 994 dLaw_law_219 rfl (fun _ => ?_) (fun h => absurd rfl h)
  exact G.bud bc0 bs0 (by omega) (by omega) (ih M2 hJ)
set_option maxRecDepth 100000 in
set_option maxHeartbeats 4000000 in
theorem g_law_2 {X : mX} {l : Launch} {M : mM} {i bc bs bc0 bs0 : Nat} {J : mM → Prop} {Q : Option Value → mM → Prop} (hL : xL X 0 ≤ 3584) (hi : i + 6 < xL X 0) (h1 : bc0 + 40 ≤ bc) (h2 : bs0 + 400 ≤ bs) (hS : Shp M) (hp : Prx X l uLink_respond uMod_respond [.int (xI X 0 (i + 1)), .int (bz (xI X 0 (i + 2)))] M J) (ih : ∀ M2, J M2 → G X l uLaw room_1 bc0 bs0 M2 994 [some (.ref 0), some (.ref 3), some (.ref 169), some (.int (nI i))] [] Q) : G X l uLaw room_1 bc bs M 224 [some (.ref 0), some (.ref 3), some (.ref 169), some (.int (nI i))] [] Q := by
  obtain ⟨rC, rM, ⟨c1, c2, c3, c4⟩, ⟨m1, m2, m3, m4⟩, hC⟩ := hp
  refine g_aload_n 224 dLaw_law_224 rfl ?_
  refine g_aload_n 225 dLaw_law_225 rfl ?_
  refine g_iload_n 226 dLaw_law_226 rfl ?_
  refine g_iconst 227 (nI 1) dLaw_law_227 rfl ?_
  refine g_iaddN 228 dLaw_law_228 ?_
  refine g_oaldN 229 (by decide) dLaw_law_229 (by omega) (by omega) ?_
  refine g_aload_n 230 dLaw_law_230 rfl ?_
  refine g_iload_n 231 dLaw_law_231 rfl ?_
  refine g_iconst 232 (nI 2) dLaw_law_232 rfl ?_
  refine g_iaddN 233 dLaw_law_233 ?_
  refine g_oaldN 234 (by decide) dLaw_law_234 (by omega) (by omega) ?_
  refine g_bz 235 242 243 dLaw_law_235 dLaw_law_238 dLaw_law_239 dLaw_law_242 rfl rfl rfl ?_
  refine g_callV 243 [_, _] dLaw_law_243 cs_Law_23 rfl (ci := 0) rfl (by decide) hS.link rfl ⟨by show rC.frames + 1 ≤ 10; omega, by show 8 + (6 + 11) + rC.locals ≤ 362; omega⟩ (Nat.le_of_ble_eq_true rfl) hC (by omega) (by omega) ?_
  rintro _ M1 ⟨v, rfl, hS1, hM⟩
  refine g_aload_n 246 dLaw_law_246 rfl ?_
  refine g_aload_n 247 dLaw_law_247 rfl ?_
  refine g_iload_n 248 dLaw_law_248 rfl ?_
  refine g_iconst 249 (nI 1) dLaw_law_249 rfl ?_
  refine g_iaddN 250 dLaw_law_250 ?_
  refine g_oaldN 251 (by decide) dLaw_law_251 (by omega) (by omega) ?_
  refine g_aload_n 252 dLaw_law_252 rfl ?_
  refine g_iload_n 253 dLaw_law_253 rfl ?_
  refine g_iconst 254 (nI 2) dLaw_law_254 rfl ?_
  refine g_iaddN 255 dLaw_law_255 ?_
  refine g_oaldN 256 (by decide) dLaw_law_256 (by omega) (by omega) ?_
  refine g_bz 257 264 265 dLaw_law_257 dLaw_law_260 dLaw_law_261 dLaw_law_264 rfl rfl rfl ?_
  refine g_callV 265 [_, _] dLaw_law_265 cs_Law_27 rfl (ci := 10) rfl (by decide) hS1.mod rfl ⟨by show rM.frames + 1 ≤ 10; omega, by show 8 + (6 + 11) + rM.locals ≤ 362; omega⟩ (Nat.le_of_ble_eq_true rfl) hM (by omega) (by omega) ?_
  rintro _ M2 ⟨rfl, hJ⟩
  refine g_icmp_eq 268 994 dLaw_law_268 rfl (fun _ => ?_) (fun h => absurd rfl h)
  exact G.bud bc0 bs0 (by omega) (by omega) (ih M2 hJ)
set_option maxRecDepth 100000 in
set_option maxHeartbeats 4000000 in
theorem g_law_3 {X : mX} {l : Launch} {M : mM} {i bc bs bc0 bs0 : Nat} {J : mM → Prop} {Q : Option Value → mM → Prop} (hL : xL X 0 ≤ 3584) (hi : i + 6 < xL X 0) (h1 : bc0 + 40 ≤ bc) (h2 : bs0 + 400 ≤ bs) (hS : Shp M) (hp : Prx X l uLink_write uMod_write [.int (xI X 0 (i + 1)), .int (xI X 0 (i + 2)), .long (lng (xI X 0 (i + 3)) (xI X 0 (i + 4))), .int (xI X 0 (i + 5)), .int (bz (xI X 0 (i + 6)))] M J) (ih : ∀ M2, J M2 → G X l uLaw room_1 bc0 bs0 M2 994 [some (.ref 0), some (.ref 3), some (.ref 169), some (.int (nI i))] [] Q) : G X l uLaw room_1 bc bs M 273 [some (.ref 0), some (.ref 3), some (.ref 169), some (.int (nI i))] [] Q := by
  obtain ⟨rC, rM, ⟨c1, c2, c3, c4⟩, ⟨m1, m2, m3, m4⟩, hC⟩ := hp
  refine g_aload_n 273 dLaw_law_273 rfl ?_
  refine g_aload_n 274 dLaw_law_274 rfl ?_
  refine g_iload_n 275 dLaw_law_275 rfl ?_
  refine g_iconst 276 (nI 1) dLaw_law_276 rfl ?_
  refine g_iaddN 277 dLaw_law_277 ?_
  refine g_oaldN 278 (by decide) dLaw_law_278 (by omega) (by omega) ?_
  refine g_aload_n 279 dLaw_law_279 rfl ?_
  refine g_iload_n 280 dLaw_law_280 rfl ?_
  refine g_iconst 281 (nI 2) dLaw_law_281 rfl ?_
  refine g_iaddN 282 dLaw_law_282 ?_
  refine g_oaldN 283 (by decide) dLaw_law_283 (by omega) (by omega) ?_
  refine g_aload_n 284 dLaw_law_284 rfl ?_
  refine g_iload_n 285 dLaw_law_285 rfl ?_
  refine g_iconst 286 (nI 3) dLaw_law_286 rfl ?_
  refine g_iaddN 287 dLaw_law_287 ?_
  refine g_oaldN 288 (by decide) dLaw_law_288 (by omega) (by omega) ?_
  refine g_i2l 289 dLaw_law_289 ?_
  refine g_bipush 290 32 dLaw_law_290 rfl ?_
  refine g_lshl 292 dLaw_law_292 ?_
  refine g_aload_n 293 dLaw_law_293 rfl ?_
  refine g_iload_n 294 dLaw_law_294 rfl ?_
  refine g_iconst 295 (nI 4) dLaw_law_295 rfl ?_
  refine g_iaddN 296 dLaw_law_296 ?_
  refine g_oaldN 297 (by decide) dLaw_law_297 (by omega) (by omega) ?_
  refine g_i2l 298 dLaw_law_298 ?_
  refine g_ldc2 299 4294967295 dLaw_law_299 lc_Law_28 ?_
  refine g_land 302 dLaw_law_302 ?_
  refine g_lor 303 dLaw_law_303 ?_
  refine g_aload_n 304 dLaw_law_304 rfl ?_
  refine g_iload_n 305 dLaw_law_305 rfl ?_
  refine g_iconst 306 (nI 5) dLaw_law_306 rfl ?_
  refine g_iaddN 307 dLaw_law_307 ?_
  refine g_oaldN 308 (by decide) dLaw_law_308 (by omega) (by omega) ?_
  refine g_aload_n 309 dLaw_law_309 rfl ?_
  refine g_iload_n 310 dLaw_law_310 rfl ?_
  refine g_bipush 311 (nI 6) dLaw_law_311 rfl ?_
  refine g_iaddN 313 dLaw_law_313 ?_
  refine g_oaldN 314 (by decide) dLaw_law_314 (by omega) (by omega) ?_
  refine g_bz 315 322 323 dLaw_law_315 dLaw_law_318 dLaw_law_319 dLaw_law_322 rfl rfl rfl ?_
  refine g_callV 323 [_, _, _, _, _] dLaw_law_323 cs_Law_30 rfl (ci := 0) rfl (by decide) hS.link rfl ⟨by show rC.frames + 1 ≤ 10; omega, by show 8 + (8 + 11) + rC.locals ≤ 362; omega⟩ (Nat.le_of_ble_eq_true rfl) hC (by omega) (by omega) ?_
  rintro _ M1 ⟨v, rfl, hS1, hM⟩
  refine g_aload_n 326 dLaw_law_326 rfl ?_
  refine g_aload_n 327 dLaw_law_327 rfl ?_
  refine g_iload_n 328 dLaw_law_328 rfl ?_
  refine g_iconst 329 (nI 1) dLaw_law_329 rfl ?_
  refine g_iaddN 330 dLaw_law_330 ?_
  refine g_oaldN 331 (by decide) dLaw_law_331 (by omega) (by omega) ?_
  refine g_aload_n 332 dLaw_law_332 rfl ?_
  refine g_iload_n 333 dLaw_law_333 rfl ?_
  refine g_iconst 334 (nI 2) dLaw_law_334 rfl ?_
  refine g_iaddN 335 dLaw_law_335 ?_
  refine g_oaldN 336 (by decide) dLaw_law_336 (by omega) (by omega) ?_
  refine g_aload_n 337 dLaw_law_337 rfl ?_
  refine g_iload_n 338 dLaw_law_338 rfl ?_
  refine g_iconst 339 (nI 3) dLaw_law_339 rfl ?_
  refine g_iaddN 340 dLaw_law_340 ?_
  refine g_oaldN 341 (by decide) dLaw_law_341 (by omega) (by omega) ?_
  refine g_i2l 342 dLaw_law_342 ?_
  refine g_bipush 343 32 dLaw_law_343 rfl ?_
  refine g_lshl 345 dLaw_law_345 ?_
  refine g_aload_n 346 dLaw_law_346 rfl ?_
  refine g_iload_n 347 dLaw_law_347 rfl ?_
  refine g_iconst 348 (nI 4) dLaw_law_348 rfl ?_
  refine g_iaddN 349 dLaw_law_349 ?_
  refine g_oaldN 350 (by decide) dLaw_law_350 (by omega) (by omega) ?_
  refine g_i2l 351 dLaw_law_351 ?_
  refine g_ldc2 352 4294967295 dLaw_law_352 lc_Law_28 ?_
  refine g_land 355 dLaw_law_355 ?_
  refine g_lor 356 dLaw_law_356 ?_
  refine g_aload_n 357 dLaw_law_357 rfl ?_
  refine g_iload_n 358 dLaw_law_358 rfl ?_
  refine g_iconst 359 (nI 5) dLaw_law_359 rfl ?_
  refine g_iaddN 360 dLaw_law_360 ?_
  refine g_oaldN 361 (by decide) dLaw_law_361 (by omega) (by omega) ?_
  refine g_aload_n 362 dLaw_law_362 rfl ?_
  refine g_iload_n 363 dLaw_law_363 rfl ?_
  refine g_bipush 364 (nI 6) dLaw_law_364 rfl ?_
  refine g_iaddN 366 dLaw_law_366 ?_
  refine g_oaldN 367 (by decide) dLaw_law_367 (by omega) (by omega) ?_
  refine g_bz 368 375 376 dLaw_law_368 dLaw_law_371 dLaw_law_372 dLaw_law_375 rfl rfl rfl ?_
  refine g_callV 376 [_, _, _, _, _] dLaw_law_376 cs_Law_34 rfl (ci := 10) rfl (by decide) hS1.mod rfl ⟨by show rM.frames + 1 ≤ 10; omega, by show 8 + (10 + 11) + rM.locals ≤ 362; omega⟩ (Nat.le_of_ble_eq_true rfl) hM (by omega) (by omega) ?_
  rintro _ M2 ⟨rfl, hJ⟩
  refine g_icmp_eq 379 994 dLaw_law_379 rfl (fun _ => ?_) (fun h => absurd rfl h)
  exact G.bud bc0 bs0 (by omega) (by omega) (ih M2 hJ)
set_option maxRecDepth 100000 in
set_option maxHeartbeats 4000000 in
theorem g_law_4 {X : mX} {l : Launch} {M : mM} {i bc bs bc0 bs0 : Nat} {J : mM → Prop} {Q : Option Value → mM → Prop} (hL : xL X 0 ≤ 3584) (hi : i + 6 < xL X 0) (h1 : bc0 + 40 ≤ bc) (h2 : bs0 + 400 ≤ bs) (hS : Shp M) (hp : Prx X l uLink_pump uMod_pump [.int (xI X 0 (i + 1)), .int (xI X 0 (i + 2))] M J) (ih : ∀ M2, J M2 → G X l uLaw room_1 bc0 bs0 M2 994 [some (.ref 0), some (.ref 3), some (.ref 169), some (.int (nI i))] [] Q) : G X l uLaw room_1 bc bs M 384 [some (.ref 0), some (.ref 3), some (.ref 169), some (.int (nI i))] [] Q := by
  obtain ⟨rC, rM, ⟨c1, c2, c3, c4⟩, ⟨m1, m2, m3, m4⟩, hC⟩ := hp
  refine g_aload_n 384 dLaw_law_384 rfl ?_
  refine g_aload_n 385 dLaw_law_385 rfl ?_
  refine g_iload_n 386 dLaw_law_386 rfl ?_
  refine g_iconst 387 (nI 1) dLaw_law_387 rfl ?_
  refine g_iaddN 388 dLaw_law_388 ?_
  refine g_oaldN 389 (by decide) dLaw_law_389 (by omega) (by omega) ?_
  refine g_aload_n 390 dLaw_law_390 rfl ?_
  refine g_iload_n 391 dLaw_law_391 rfl ?_
  refine g_iconst 392 (nI 2) dLaw_law_392 rfl ?_
  refine g_iaddN 393 dLaw_law_393 ?_
  refine g_oaldN 394 (by decide) dLaw_law_394 (by omega) (by omega) ?_
  refine g_callV 395 [_, _] dLaw_law_395 cs_Law_35 rfl (ci := 0) rfl (by decide) hS.link rfl ⟨by show rC.frames + 1 ≤ 10; omega, by show 8 + (4 + 11) + rC.locals ≤ 362; omega⟩ (Nat.le_of_ble_eq_true rfl) hC (by omega) (by omega) ?_
  rintro _ M1 ⟨v, rfl, hS1, hM⟩
  refine g_aload_n 398 dLaw_law_398 rfl ?_
  refine g_aload_n 399 dLaw_law_399 rfl ?_
  refine g_iload_n 400 dLaw_law_400 rfl ?_
  refine g_iconst 401 (nI 1) dLaw_law_401 rfl ?_
  refine g_iaddN 402 dLaw_law_402 ?_
  refine g_oaldN 403 (by decide) dLaw_law_403 (by omega) (by omega) ?_
  refine g_aload_n 404 dLaw_law_404 rfl ?_
  refine g_iload_n 405 dLaw_law_405 rfl ?_
  refine g_iconst 406 (nI 2) dLaw_law_406 rfl ?_
  refine g_iaddN 407 dLaw_law_407 ?_
  refine g_oaldN 408 (by decide) dLaw_law_408 (by omega) (by omega) ?_
  refine g_callV 409 [_, _] dLaw_law_409 cs_Law_39 rfl (ci := 10) rfl (by decide) hS1.mod rfl ⟨by show rM.frames + 1 ≤ 10; omega, by show 8 + (7 + 11) + rM.locals ≤ 362; omega⟩ (Nat.le_of_ble_eq_true rfl) hM (by omega) (by omega) ?_
  rintro _ M2 ⟨rfl, hJ⟩
  refine g_icmp_eq 412 994 dLaw_law_412 rfl (fun _ => ?_) (fun h => absurd rfl h)
  exact G.bud bc0 bs0 (by omega) (by omega) (ih M2 hJ)
set_option maxRecDepth 100000 in
set_option maxHeartbeats 4000000 in
theorem g_law_5 {X : mX} {l : Launch} {M : mM} {i bc bs bc0 bs0 : Nat} {J : mM → Prop} {Q : Option Value → mM → Prop} (hL : xL X 0 ≤ 3584) (hi : i + 6 < xL X 0) (h1 : bc0 + 40 ≤ bc) (h2 : bs0 + 400 ≤ bs) (hS : Shp M) (hp : Prl X l uLink_read uMod_read [.int (xI X 0 (i + 1)), .int (xI X 0 (i + 2)), .int (xI X 0 (i + 3))] M J) (ih : ∀ M2, J M2 → G X l uLaw room_1 bc0 bs0 M2 994 [some (.ref 0), some (.ref 3), some (.ref 169), some (.int (nI i))] [] Q) : G X l uLaw room_1 bc bs M 417 [some (.ref 0), some (.ref 3), some (.ref 169), some (.int (nI i))] [] Q := by
  obtain ⟨rC, rM, ⟨c1, c2, c3, c4⟩, ⟨m1, m2, m3, m4⟩, hC⟩ := hp
  refine g_aload_n 417 dLaw_law_417 rfl ?_
  refine g_aload_n 418 dLaw_law_418 rfl ?_
  refine g_iload_n 419 dLaw_law_419 rfl ?_
  refine g_iconst 420 (nI 1) dLaw_law_420 rfl ?_
  refine g_iaddN 421 dLaw_law_421 ?_
  refine g_oaldN 422 (by decide) dLaw_law_422 (by omega) (by omega) ?_
  refine g_aload_n 423 dLaw_law_423 rfl ?_
  refine g_iload_n 424 dLaw_law_424 rfl ?_
  refine g_iconst 425 (nI 2) dLaw_law_425 rfl ?_
  refine g_iaddN 426 dLaw_law_426 ?_
  refine g_oaldN 427 (by decide) dLaw_law_427 (by omega) (by omega) ?_
  refine g_aload_n 428 dLaw_law_428 rfl ?_
  refine g_iload_n 429 dLaw_law_429 rfl ?_
  refine g_iconst 430 (nI 3) dLaw_law_430 rfl ?_
  refine g_iaddN 431 dLaw_law_431 ?_
  refine g_oaldN 432 (by decide) dLaw_law_432 (by omega) (by omega) ?_
  refine g_callV 433 [_, _, _] dLaw_law_433 cs_Law_40 rfl (ci := 0) rfl (by decide) hS.link rfl ⟨by show rC.frames + 1 ≤ 10; omega, by show 8 + (6 + 11) + rC.locals ≤ 362; omega⟩ (Nat.le_of_ble_eq_true rfl) hC (by omega) (by omega) ?_
  rintro _ M1 ⟨v, rfl, hS1, hM⟩
  refine g_aload_n 436 dLaw_law_436 rfl ?_
  refine g_aload_n 437 dLaw_law_437 rfl ?_
  refine g_iload_n 438 dLaw_law_438 rfl ?_
  refine g_iconst 439 (nI 1) dLaw_law_439 rfl ?_
  refine g_iaddN 440 dLaw_law_440 ?_
  refine g_oaldN 441 (by decide) dLaw_law_441 (by omega) (by omega) ?_
  refine g_aload_n 442 dLaw_law_442 rfl ?_
  refine g_iload_n 443 dLaw_law_443 rfl ?_
  refine g_iconst 444 (nI 2) dLaw_law_444 rfl ?_
  refine g_iaddN 445 dLaw_law_445 ?_
  refine g_oaldN 446 (by decide) dLaw_law_446 (by omega) (by omega) ?_
  refine g_aload_n 447 dLaw_law_447 rfl ?_
  refine g_iload_n 448 dLaw_law_448 rfl ?_
  refine g_iconst 449 (nI 3) dLaw_law_449 rfl ?_
  refine g_iaddN 450 dLaw_law_450 ?_
  refine g_oaldN 451 (by decide) dLaw_law_451 (by omega) (by omega) ?_
  refine g_callV 452 [_, _, _] dLaw_law_452 cs_Law_44 rfl (ci := 10) rfl (by decide) hS1.mod rfl ⟨by show rM.frames + 1 ≤ 10; omega, by show 8 + (7 + 11) + rM.locals ≤ 362; omega⟩ (Nat.le_of_ble_eq_true rfl) hM (by omega) (by omega) ?_
  rintro _ M2 ⟨rfl, hJ⟩
  refine g_lcmp 455 dLaw_law_455 ?_
  refine g_top 0 (lg_self v) ?_
  refine g_if_eq 456 994 dLaw_law_456 rfl (fun _ => ?_) (fun h => absurd rfl h)
  exact G.bud bc0 bs0 (by omega) (by omega) (ih M2 hJ)
set_option maxRecDepth 100000 in
set_option maxHeartbeats 4000000 in
theorem g_law_6 {X : mX} {l : Launch} {M : mM} {i bc bs bc0 bs0 : Nat} {J : mM → Prop} {Q : Option Value → mM → Prop} (hL : xL X 0 ≤ 3584) (hi : i + 6 < xL X 0) (h1 : bc0 + 40 ≤ bc) (h2 : bs0 + 400 ≤ bs) (hS : Shp M) (hp : Prx X l uLink_reset uMod_reset [.int (xI X 0 (i + 1)), .int (xI X 0 (i + 2)), .int (xI X 0 (i + 3))] M J) (ih : ∀ M2, J M2 → G X l uLaw room_1 bc0 bs0 M2 994 [some (.ref 0), some (.ref 3), some (.ref 169), some (.int (nI i))] [] Q) : G X l uLaw room_1 bc bs M 461 [some (.ref 0), some (.ref 3), some (.ref 169), some (.int (nI i))] [] Q := by
  obtain ⟨rC, rM, ⟨c1, c2, c3, c4⟩, ⟨m1, m2, m3, m4⟩, hC⟩ := hp
  refine g_aload_n 461 dLaw_law_461 rfl ?_
  refine g_aload_n 462 dLaw_law_462 rfl ?_
  refine g_iload_n 463 dLaw_law_463 rfl ?_
  refine g_iconst 464 (nI 1) dLaw_law_464 rfl ?_
  refine g_iaddN 465 dLaw_law_465 ?_
  refine g_oaldN 466 (by decide) dLaw_law_466 (by omega) (by omega) ?_
  refine g_aload_n 467 dLaw_law_467 rfl ?_
  refine g_iload_n 468 dLaw_law_468 rfl ?_
  refine g_iconst 469 (nI 2) dLaw_law_469 rfl ?_
  refine g_iaddN 470 dLaw_law_470 ?_
  refine g_oaldN 471 (by decide) dLaw_law_471 (by omega) (by omega) ?_
  refine g_aload_n 472 dLaw_law_472 rfl ?_
  refine g_iload_n 473 dLaw_law_473 rfl ?_
  refine g_iconst 474 (nI 3) dLaw_law_474 rfl ?_
  refine g_iaddN 475 dLaw_law_475 ?_
  refine g_oaldN 476 (by decide) dLaw_law_476 (by omega) (by omega) ?_
  refine g_callV 477 [_, _, _] dLaw_law_477 cs_Law_45 rfl (ci := 0) rfl (by decide) hS.link rfl ⟨by show rC.frames + 1 ≤ 10; omega, by show 8 + (6 + 11) + rC.locals ≤ 362; omega⟩ (Nat.le_of_ble_eq_true rfl) hC (by omega) (by omega) ?_
  rintro _ M1 ⟨v, rfl, hS1, hM⟩
  refine g_aload_n 480 dLaw_law_480 rfl ?_
  refine g_aload_n 481 dLaw_law_481 rfl ?_
  refine g_iload_n 482 dLaw_law_482 rfl ?_
  refine g_iconst 483 (nI 1) dLaw_law_483 rfl ?_
  refine g_iaddN 484 dLaw_law_484 ?_
  refine g_oaldN 485 (by decide) dLaw_law_485 (by omega) (by omega) ?_
  refine g_aload_n 486 dLaw_law_486 rfl ?_
  refine g_iload_n 487 dLaw_law_487 rfl ?_
  refine g_iconst 488 (nI 2) dLaw_law_488 rfl ?_
  refine g_iaddN 489 dLaw_law_489 ?_
  refine g_oaldN 490 (by decide) dLaw_law_490 (by omega) (by omega) ?_
  refine g_aload_n 491 dLaw_law_491 rfl ?_
  refine g_iload_n 492 dLaw_law_492 rfl ?_
  refine g_iconst 493 (nI 3) dLaw_law_493 rfl ?_
  refine g_iaddN 494 dLaw_law_494 ?_
  refine g_oaldN 495 (by decide) dLaw_law_495 (by omega) (by omega) ?_
  refine g_callV 496 [_, _, _] dLaw_law_496 cs_Law_49 rfl (ci := 10) rfl (by decide) hS1.mod rfl ⟨by show rM.frames + 1 ≤ 10; omega, by show 8 + (4 + 11) + rM.locals ≤ 362; omega⟩ (Nat.le_of_ble_eq_true rfl) hM (by omega) (by omega) ?_
  rintro _ M2 ⟨rfl, hJ⟩
  refine g_icmp_eq 499 994 dLaw_law_499 rfl (fun _ => ?_) (fun h => absurd rfl h)
  exact G.bud bc0 bs0 (by omega) (by omega) (ih M2 hJ)
set_option maxRecDepth 100000 in
set_option maxHeartbeats 4000000 in
theorem g_law_7 {X : mX} {l : Launch} {M : mM} {i bc bs bc0 bs0 : Nat} {J : mM → Prop} {Q : Option Value → mM → Prop} (hL : xL X 0 ≤ 3584) (hi : i + 6 < xL X 0) (h1 : bc0 + 40 ≤ bc) (h2 : bs0 + 400 ≤ bs) (hS : Shp M) (hp : Prx X l uLink_setting uMod_setting [.int (xI X 0 (i + 1)), .int (xI X 0 (i + 2)), .int (xI X 0 (i + 3))] M J) (ih : ∀ M2, J M2 → G X l uLaw room_1 bc0 bs0 M2 994 [some (.ref 0), some (.ref 3), some (.ref 169), some (.int (nI i))] [] Q) : G X l uLaw room_1 bc bs M 504 [some (.ref 0), some (.ref 3), some (.ref 169), some (.int (nI i))] [] Q := by
  obtain ⟨rC, rM, ⟨c1, c2, c3, c4⟩, ⟨m1, m2, m3, m4⟩, hC⟩ := hp
  refine g_aload_n 504 dLaw_law_504 rfl ?_
  refine g_aload_n 505 dLaw_law_505 rfl ?_
  refine g_iload_n 506 dLaw_law_506 rfl ?_
  refine g_iconst 507 (nI 1) dLaw_law_507 rfl ?_
  refine g_iaddN 508 dLaw_law_508 ?_
  refine g_oaldN 509 (by decide) dLaw_law_509 (by omega) (by omega) ?_
  refine g_aload_n 510 dLaw_law_510 rfl ?_
  refine g_iload_n 511 dLaw_law_511 rfl ?_
  refine g_iconst 512 (nI 2) dLaw_law_512 rfl ?_
  refine g_iaddN 513 dLaw_law_513 ?_
  refine g_oaldN 514 (by decide) dLaw_law_514 (by omega) (by omega) ?_
  refine g_aload_n 515 dLaw_law_515 rfl ?_
  refine g_iload_n 516 dLaw_law_516 rfl ?_
  refine g_iconst 517 (nI 3) dLaw_law_517 rfl ?_
  refine g_iaddN 518 dLaw_law_518 ?_
  refine g_oaldN 519 (by decide) dLaw_law_519 (by omega) (by omega) ?_
  refine g_callV 520 [_, _, _] dLaw_law_520 cs_Law_50 rfl (ci := 0) rfl (by decide) hS.link rfl ⟨by show rC.frames + 1 ≤ 10; omega, by show 8 + (5 + 11) + rC.locals ≤ 362; omega⟩ (Nat.le_of_ble_eq_true rfl) hC (by omega) (by omega) ?_
  rintro _ M1 ⟨v, rfl, hS1, hM⟩
  refine g_aload_n 523 dLaw_law_523 rfl ?_
  refine g_aload_n 524 dLaw_law_524 rfl ?_
  refine g_iload_n 525 dLaw_law_525 rfl ?_
  refine g_iconst 526 (nI 1) dLaw_law_526 rfl ?_
  refine g_iaddN 527 dLaw_law_527 ?_
  refine g_oaldN 528 (by decide) dLaw_law_528 (by omega) (by omega) ?_
  refine g_aload_n 529 dLaw_law_529 rfl ?_
  refine g_iload_n 530 dLaw_law_530 rfl ?_
  refine g_iconst 531 (nI 2) dLaw_law_531 rfl ?_
  refine g_iaddN 532 dLaw_law_532 ?_
  refine g_oaldN 533 (by decide) dLaw_law_533 (by omega) (by omega) ?_
  refine g_aload_n 534 dLaw_law_534 rfl ?_
  refine g_iload_n 535 dLaw_law_535 rfl ?_
  refine g_iconst 536 (nI 3) dLaw_law_536 rfl ?_
  refine g_iaddN 537 dLaw_law_537 ?_
  refine g_oaldN 538 (by decide) dLaw_law_538 (by omega) (by omega) ?_
  refine g_callV 539 [_, _, _] dLaw_law_539 cs_Law_53 rfl (ci := 10) rfl (by decide) hS1.mod rfl ⟨by show rM.frames + 1 ≤ 10; omega, by show 8 + (5 + 11) + rM.locals ≤ 362; omega⟩ (Nat.le_of_ble_eq_true rfl) hM (by omega) (by omega) ?_
  rintro _ M2 ⟨rfl, hJ⟩
  refine g_icmp_eq 542 994 dLaw_law_542 rfl (fun _ => ?_) (fun h => absurd rfl h)
  exact G.bud bc0 bs0 (by omega) (by omega) (ih M2 hJ)
set_option maxRecDepth 100000 in
set_option maxHeartbeats 4000000 in
theorem g_law_8 {X : mX} {l : Launch} {M : mM} {i bc bs bc0 bs0 : Nat} {J : mM → Prop} {Q : Option Value → mM → Prop} (hL : xL X 0 ≤ 3584) (hi : i + 6 < xL X 0) (h1 : bc0 + 40 ≤ bc) (h2 : bs0 + 400 ≤ bs) (hS : Shp M) (hp : Prx X l uLink_deliver uMod_deliver [.int (xI X 0 (i + 1))] M J) (ih : ∀ M2, J M2 → G X l uLaw room_1 bc0 bs0 M2 994 [some (.ref 0), some (.ref 3), some (.ref 169), some (.int (nI i))] [] Q) : G X l uLaw room_1 bc bs M 547 [some (.ref 0), some (.ref 3), some (.ref 169), some (.int (nI i))] [] Q := by
  obtain ⟨rC, rM, ⟨c1, c2, c3, c4⟩, ⟨m1, m2, m3, m4⟩, hC⟩ := hp
  refine g_aload_n 547 dLaw_law_547 rfl ?_
  refine g_aload_n 548 dLaw_law_548 rfl ?_
  refine g_iload_n 549 dLaw_law_549 rfl ?_
  refine g_iconst 550 (nI 1) dLaw_law_550 rfl ?_
  refine g_iaddN 551 dLaw_law_551 ?_
  refine g_oaldN 552 (by decide) dLaw_law_552 (by omega) (by omega) ?_
  refine g_callV 553 [_] dLaw_law_553 cs_Law_54 rfl (ci := 0) rfl (by decide) hS.link rfl ⟨by show rC.frames + 1 ≤ 10; omega, by show 8 + (5 + 11) + rC.locals ≤ 362; omega⟩ (Nat.le_of_ble_eq_true rfl) hC (by omega) (by omega) ?_
  rintro _ M1 ⟨v, rfl, hS1, hM⟩
  refine g_aload_n 556 dLaw_law_556 rfl ?_
  refine g_aload_n 557 dLaw_law_557 rfl ?_
  refine g_iload_n 558 dLaw_law_558 rfl ?_
  refine g_iconst 559 (nI 1) dLaw_law_559 rfl ?_
  refine g_iaddN 560 dLaw_law_560 ?_
  refine g_oaldN 561 (by decide) dLaw_law_561 (by omega) (by omega) ?_
  refine g_callV 562 [_] dLaw_law_562 cs_Law_58 rfl (ci := 10) rfl (by decide) hS1.mod rfl ⟨by show rM.frames + 1 ≤ 10; omega, by show 8 + (4 + 11) + rM.locals ≤ 362; omega⟩ (Nat.le_of_ble_eq_true rfl) hM (by omega) (by omega) ?_
  rintro _ M2 ⟨rfl, hJ⟩
  refine g_icmp_eq 565 994 dLaw_law_565 rfl (fun _ => ?_) (fun h => absurd rfl h)
  exact G.bud bc0 bs0 (by omega) (by omega) (ih M2 hJ)
set_option maxRecDepth 100000 in
set_option maxHeartbeats 4000000 in
theorem g_law_9 {X : mX} {l : Launch} {M : mM} {i bc bs bc0 bs0 : Nat} {J : mM → Prop} {Q : Option Value → mM → Prop} (hL : xL X 0 ≤ 3584) (hi : i + 6 < xL X 0) (h1 : bc0 + 40 ≤ bc) (h2 : bs0 + 400 ≤ bs) (hS : Shp M) (hp : Prx X l uLink_inject uMod_inject [.int (xI X 0 (i + 1)), .int (xI X 0 (i + 2)), .int (xI X 0 (i + 3)), .int (xI X 0 (i + 4)), .int (bz (xI X 0 (i + 5)))] M J) (ih : ∀ M2, J M2 → G X l uLaw room_1 bc0 bs0 M2 994 [some (.ref 0), some (.ref 3), some (.ref 169), some (.int (nI i))] [] Q) : G X l uLaw room_1 bc bs M 570 [some (.ref 0), some (.ref 3), some (.ref 169), some (.int (nI i))] [] Q := by
  obtain ⟨rC, rM, ⟨c1, c2, c3, c4⟩, ⟨m1, m2, m3, m4⟩, hC⟩ := hp
  refine g_aload_n 570 dLaw_law_570 rfl ?_
  refine g_aload_n 571 dLaw_law_571 rfl ?_
  refine g_iload_n 572 dLaw_law_572 rfl ?_
  refine g_iconst 573 (nI 1) dLaw_law_573 rfl ?_
  refine g_iaddN 574 dLaw_law_574 ?_
  refine g_oaldN 575 (by decide) dLaw_law_575 (by omega) (by omega) ?_
  refine g_aload_n 576 dLaw_law_576 rfl ?_
  refine g_iload_n 577 dLaw_law_577 rfl ?_
  refine g_iconst 578 (nI 2) dLaw_law_578 rfl ?_
  refine g_iaddN 579 dLaw_law_579 ?_
  refine g_oaldN 580 (by decide) dLaw_law_580 (by omega) (by omega) ?_
  refine g_aload_n 581 dLaw_law_581 rfl ?_
  refine g_iload_n 582 dLaw_law_582 rfl ?_
  refine g_iconst 583 (nI 3) dLaw_law_583 rfl ?_
  refine g_iaddN 584 dLaw_law_584 ?_
  refine g_oaldN 585 (by decide) dLaw_law_585 (by omega) (by omega) ?_
  refine g_aload_n 586 dLaw_law_586 rfl ?_
  refine g_iload_n 587 dLaw_law_587 rfl ?_
  refine g_iconst 588 (nI 4) dLaw_law_588 rfl ?_
  refine g_iaddN 589 dLaw_law_589 ?_
  refine g_oaldN 590 (by decide) dLaw_law_590 (by omega) (by omega) ?_
  refine g_aload_n 591 dLaw_law_591 rfl ?_
  refine g_iload_n 592 dLaw_law_592 rfl ?_
  refine g_iconst 593 (nI 5) dLaw_law_593 rfl ?_
  refine g_iaddN 594 dLaw_law_594 ?_
  refine g_oaldN 595 (by decide) dLaw_law_595 (by omega) (by omega) ?_
  refine g_bz 596 603 604 dLaw_law_596 dLaw_law_599 dLaw_law_600 dLaw_law_603 rfl rfl rfl ?_
  refine g_callV 604 [_, _, _, _, _] dLaw_law_604 cs_Law_59 rfl (ci := 0) rfl (by decide) hS.link rfl ⟨by show rC.frames + 1 ≤ 10; omega, by show 8 + (8 + 11) + rC.locals ≤ 362; omega⟩ (Nat.le_of_ble_eq_true rfl) hC (by omega) (by omega) ?_
  rintro _ M1 ⟨v, rfl, hS1, hM⟩
  refine g_aload_n 607 dLaw_law_607 rfl ?_
  refine g_aload_n 608 dLaw_law_608 rfl ?_
  refine g_iload_n 609 dLaw_law_609 rfl ?_
  refine g_iconst 610 (nI 1) dLaw_law_610 rfl ?_
  refine g_iaddN 611 dLaw_law_611 ?_
  refine g_oaldN 612 (by decide) dLaw_law_612 (by omega) (by omega) ?_
  refine g_aload_n 613 dLaw_law_613 rfl ?_
  refine g_iload_n 614 dLaw_law_614 rfl ?_
  refine g_iconst 615 (nI 2) dLaw_law_615 rfl ?_
  refine g_iaddN 616 dLaw_law_616 ?_
  refine g_oaldN 617 (by decide) dLaw_law_617 (by omega) (by omega) ?_
  refine g_aload_n 618 dLaw_law_618 rfl ?_
  refine g_iload_n 619 dLaw_law_619 rfl ?_
  refine g_iconst 620 (nI 3) dLaw_law_620 rfl ?_
  refine g_iaddN 621 dLaw_law_621 ?_
  refine g_oaldN 622 (by decide) dLaw_law_622 (by omega) (by omega) ?_
  refine g_aload_n 623 dLaw_law_623 rfl ?_
  refine g_iload_n 624 dLaw_law_624 rfl ?_
  refine g_iconst 625 (nI 4) dLaw_law_625 rfl ?_
  refine g_iaddN 626 dLaw_law_626 ?_
  refine g_oaldN 627 (by decide) dLaw_law_627 (by omega) (by omega) ?_
  refine g_aload_n 628 dLaw_law_628 rfl ?_
  refine g_iload_n 629 dLaw_law_629 rfl ?_
  refine g_iconst 630 (nI 5) dLaw_law_630 rfl ?_
  refine g_iaddN 631 dLaw_law_631 ?_
  refine g_oaldN 632 (by decide) dLaw_law_632 (by omega) (by omega) ?_
  refine g_bz 633 640 641 dLaw_law_633 dLaw_law_636 dLaw_law_637 dLaw_law_640 rfl rfl rfl ?_
  refine g_callV 641 [_, _, _, _, _] dLaw_law_641 cs_Law_63 rfl (ci := 10) rfl (by decide) hS1.mod rfl ⟨by show rM.frames + 1 ≤ 10; omega, by show 8 + (10 + 11) + rM.locals ≤ 362; omega⟩ (Nat.le_of_ble_eq_true rfl) hM (by omega) (by omega) ?_
  rintro _ M2 ⟨rfl, hJ⟩
  refine g_icmp_eq 644 994 dLaw_law_644 rfl (fun _ => ?_) (fun h => absurd rfl h)
  exact G.bud bc0 bs0 (by omega) (by omega) (ih M2 hJ)
set_option maxRecDepth 100000 in
set_option maxHeartbeats 4000000 in
theorem g_law_10 {X : mX} {l : Launch} {M : mM} {i bc bs bc0 bs0 : Nat} {J : mM → Prop} {Q : Option Value → mM → Prop} (hL : xL X 0 ≤ 3584) (hi : i + 6 < xL X 0) (h1 : bc0 + 40 ≤ bc) (h2 : bs0 + 400 ≤ bs) (hS : Shp M) (hp : Prx X l uLink_frame uMod_frame [.int (xI X 0 (i + 1)), .int (xI X 0 (i + 2)), .int (xI X 0 (i + 3))] M J) (ih : ∀ M2, J M2 → G X l uLaw room_1 bc0 bs0 M2 994 [some (.ref 0), some (.ref 3), some (.ref 169), some (.int (nI i))] [] Q) : G X l uLaw room_1 bc bs M 649 [some (.ref 0), some (.ref 3), some (.ref 169), some (.int (nI i))] [] Q := by
  obtain ⟨rC, rM, ⟨c1, c2, c3, c4⟩, ⟨m1, m2, m3, m4⟩, hC⟩ := hp
  refine g_aload_n 649 dLaw_law_649 rfl ?_
  refine g_aload_n 650 dLaw_law_650 rfl ?_
  refine g_iload_n 651 dLaw_law_651 rfl ?_
  refine g_iconst 652 (nI 1) dLaw_law_652 rfl ?_
  refine g_iaddN 653 dLaw_law_653 ?_
  refine g_oaldN 654 (by decide) dLaw_law_654 (by omega) (by omega) ?_
  refine g_aload_n 655 dLaw_law_655 rfl ?_
  refine g_iload_n 656 dLaw_law_656 rfl ?_
  refine g_iconst 657 (nI 2) dLaw_law_657 rfl ?_
  refine g_iaddN 658 dLaw_law_658 ?_
  refine g_oaldN 659 (by decide) dLaw_law_659 (by omega) (by omega) ?_
  refine g_aload_n 660 dLaw_law_660 rfl ?_
  refine g_iload_n 661 dLaw_law_661 rfl ?_
  refine g_iconst 662 (nI 3) dLaw_law_662 rfl ?_
  refine g_iaddN 663 dLaw_law_663 ?_
  refine g_oaldN 664 (by decide) dLaw_law_664 (by omega) (by omega) ?_
  refine g_callV 665 [_, _, _] dLaw_law_665 cs_Law_64 rfl (ci := 0) rfl (by decide) hS.link rfl ⟨by show rC.frames + 1 ≤ 10; omega, by show 8 + (6 + 11) + rC.locals ≤ 362; omega⟩ (Nat.le_of_ble_eq_true rfl) hC (by omega) (by omega) ?_
  rintro _ M1 ⟨v, rfl, hS1, hM⟩
  refine g_aload_n 668 dLaw_law_668 rfl ?_
  refine g_aload_n 669 dLaw_law_669 rfl ?_
  refine g_iload_n 670 dLaw_law_670 rfl ?_
  refine g_iconst 671 (nI 1) dLaw_law_671 rfl ?_
  refine g_iaddN 672 dLaw_law_672 ?_
  refine g_oaldN 673 (by decide) dLaw_law_673 (by omega) (by omega) ?_
  refine g_aload_n 674 dLaw_law_674 rfl ?_
  refine g_iload_n 675 dLaw_law_675 rfl ?_
  refine g_iconst 676 (nI 2) dLaw_law_676 rfl ?_
  refine g_iaddN 677 dLaw_law_677 ?_
  refine g_oaldN 678 (by decide) dLaw_law_678 (by omega) (by omega) ?_
  refine g_aload_n 679 dLaw_law_679 rfl ?_
  refine g_iload_n 680 dLaw_law_680 rfl ?_
  refine g_iconst 681 (nI 3) dLaw_law_681 rfl ?_
  refine g_iaddN 682 dLaw_law_682 ?_
  refine g_oaldN 683 (by decide) dLaw_law_683 (by omega) (by omega) ?_
  refine g_callV 684 [_, _, _] dLaw_law_684 cs_Law_68 rfl (ci := 10) rfl (by decide) hS1.mod rfl ⟨by show rM.frames + 1 ≤ 10; omega, by show 8 + (7 + 11) + rM.locals ≤ 362; omega⟩ (Nat.le_of_ble_eq_true rfl) hM (by omega) (by omega) ?_
  rintro _ M2 ⟨rfl, hJ⟩
  refine g_icmp_eq 687 994 dLaw_law_687 rfl (fun _ => ?_) (fun h => absurd rfl h)
  exact G.bud bc0 bs0 (by omega) (by omega) (ih M2 hJ)
set_option maxRecDepth 100000 in
set_option maxHeartbeats 4000000 in
theorem g_law_11 {X : mX} {l : Launch} {M : mM} {i bc bs bc0 bs0 : Nat} {J : mM → Prop} {Q : Option Value → mM → Prop} (hL : xL X 0 ≤ 3584) (hi : i + 6 < xL X 0) (h1 : bc0 + 40 ≤ bc) (h2 : bs0 + 400 ≤ bs) (hS : Shp M) (hp : Prx X l uLink_state uMod_state [.int (xI X 0 (i + 1)), .int (xI X 0 (i + 2))] M J) (ih : ∀ M2, J M2 → G X l uLaw room_1 bc0 bs0 M2 994 [some (.ref 0), some (.ref 3), some (.ref 169), some (.int (nI i))] [] Q) : G X l uLaw room_1 bc bs M 692 [some (.ref 0), some (.ref 3), some (.ref 169), some (.int (nI i))] [] Q := by
  obtain ⟨rC, rM, ⟨c1, c2, c3, c4⟩, ⟨m1, m2, m3, m4⟩, hC⟩ := hp
  refine g_aload_n 692 dLaw_law_692 rfl ?_
  refine g_aload_n 693 dLaw_law_693 rfl ?_
  refine g_iload_n 694 dLaw_law_694 rfl ?_
  refine g_iconst 695 (nI 1) dLaw_law_695 rfl ?_
  refine g_iaddN 696 dLaw_law_696 ?_
  refine g_oaldN 697 (by decide) dLaw_law_697 (by omega) (by omega) ?_
  refine g_aload_n 698 dLaw_law_698 rfl ?_
  refine g_iload_n 699 dLaw_law_699 rfl ?_
  refine g_iconst 700 (nI 2) dLaw_law_700 rfl ?_
  refine g_iaddN 701 dLaw_law_701 ?_
  refine g_oaldN 702 (by decide) dLaw_law_702 (by omega) (by omega) ?_
  refine g_callV 703 [_, _] dLaw_law_703 cs_Law_69 rfl (ci := 0) rfl (by decide) hS.link rfl ⟨by show rC.frames + 1 ≤ 10; omega, by show 8 + (4 + 11) + rC.locals ≤ 362; omega⟩ (Nat.le_of_ble_eq_true rfl) hC (by omega) (by omega) ?_
  rintro _ M1 ⟨v, rfl, hS1, hM⟩
  refine g_aload_n 706 dLaw_law_706 rfl ?_
  refine g_aload_n 707 dLaw_law_707 rfl ?_
  refine g_iload_n 708 dLaw_law_708 rfl ?_
  refine g_iconst 709 (nI 1) dLaw_law_709 rfl ?_
  refine g_iaddN 710 dLaw_law_710 ?_
  refine g_oaldN 711 (by decide) dLaw_law_711 (by omega) (by omega) ?_
  refine g_aload_n 712 dLaw_law_712 rfl ?_
  refine g_iload_n 713 dLaw_law_713 rfl ?_
  refine g_iconst 714 (nI 2) dLaw_law_714 rfl ?_
  refine g_iaddN 715 dLaw_law_715 ?_
  refine g_oaldN 716 (by decide) dLaw_law_716 (by omega) (by omega) ?_
  refine g_callV 717 [_, _] dLaw_law_717 cs_Law_72 rfl (ci := 10) rfl (by decide) hS1.mod rfl ⟨by show rM.frames + 1 ≤ 10; omega, by show 8 + (3 + 11) + rM.locals ≤ 362; omega⟩ (Nat.le_of_ble_eq_true rfl) hM (by omega) (by omega) ?_
  rintro _ M2 ⟨rfl, hJ⟩
  refine g_icmp_eq 720 994 dLaw_law_720 rfl (fun _ => ?_) (fun h => absurd rfl h)
  exact G.bud bc0 bs0 (by omega) (by omega) (ih M2 hJ)
set_option maxRecDepth 100000 in
set_option maxHeartbeats 4000000 in
theorem g_law_12 {X : mX} {l : Launch} {M : mM} {i bc bs bc0 bs0 : Nat} {J : mM → Prop} {Q : Option Value → mM → Prop} (hL : xL X 0 ≤ 3584) (hi : i + 6 < xL X 0) (h1 : bc0 + 40 ≤ bc) (h2 : bs0 + 400 ≤ bs) (hS : Shp M) (hp : Prx X l uLink_window uMod_window [.int (xI X 0 (i + 1)), .int (xI X 0 (i + 2)), .int (bz (xI X 0 (i + 3)))] M J) (ih : ∀ M2, J M2 → G X l uLaw room_1 bc0 bs0 M2 994 [some (.ref 0), some (.ref 3), some (.ref 169), some (.int (nI i))] [] Q) : G X l uLaw room_1 bc bs M 725 [some (.ref 0), some (.ref 3), some (.ref 169), some (.int (nI i))] [] Q := by
  obtain ⟨rC, rM, ⟨c1, c2, c3, c4⟩, ⟨m1, m2, m3, m4⟩, hC⟩ := hp
  refine g_aload_n 725 dLaw_law_725 rfl ?_
  refine g_aload_n 726 dLaw_law_726 rfl ?_
  refine g_iload_n 727 dLaw_law_727 rfl ?_
  refine g_iconst 728 (nI 1) dLaw_law_728 rfl ?_
  refine g_iaddN 729 dLaw_law_729 ?_
  refine g_oaldN 730 (by decide) dLaw_law_730 (by omega) (by omega) ?_
  refine g_aload_n 731 dLaw_law_731 rfl ?_
  refine g_iload_n 732 dLaw_law_732 rfl ?_
  refine g_iconst 733 (nI 2) dLaw_law_733 rfl ?_
  refine g_iaddN 734 dLaw_law_734 ?_
  refine g_oaldN 735 (by decide) dLaw_law_735 (by omega) (by omega) ?_
  refine g_aload_n 736 dLaw_law_736 rfl ?_
  refine g_iload_n 737 dLaw_law_737 rfl ?_
  refine g_iconst 738 (nI 3) dLaw_law_738 rfl ?_
  refine g_iaddN 739 dLaw_law_739 ?_
  refine g_oaldN 740 (by decide) dLaw_law_740 (by omega) (by omega) ?_
  refine g_bz 741 748 749 dLaw_law_741 dLaw_law_744 dLaw_law_745 dLaw_law_748 rfl rfl rfl ?_
  refine g_callV 749 [_, _, _] dLaw_law_749 cs_Law_73 rfl (ci := 0) rfl (by decide) hS.link rfl ⟨by show rC.frames + 1 ≤ 10; omega, by show 8 + (6 + 11) + rC.locals ≤ 362; omega⟩ (Nat.le_of_ble_eq_true rfl) hC (by omega) (by omega) ?_
  rintro _ M1 ⟨v, rfl, hS1, hM⟩
  refine g_aload_n 752 dLaw_law_752 rfl ?_
  refine g_aload_n 753 dLaw_law_753 rfl ?_
  refine g_iload_n 754 dLaw_law_754 rfl ?_
  refine g_iconst 755 (nI 1) dLaw_law_755 rfl ?_
  refine g_iaddN 756 dLaw_law_756 ?_
  refine g_oaldN 757 (by decide) dLaw_law_757 (by omega) (by omega) ?_
  refine g_aload_n 758 dLaw_law_758 rfl ?_
  refine g_iload_n 759 dLaw_law_759 rfl ?_
  refine g_iconst 760 (nI 2) dLaw_law_760 rfl ?_
  refine g_iaddN 761 dLaw_law_761 ?_
  refine g_oaldN 762 (by decide) dLaw_law_762 (by omega) (by omega) ?_
  refine g_aload_n 763 dLaw_law_763 rfl ?_
  refine g_iload_n 764 dLaw_law_764 rfl ?_
  refine g_iconst 765 (nI 3) dLaw_law_765 rfl ?_
  refine g_iaddN 766 dLaw_law_766 ?_
  refine g_oaldN 767 (by decide) dLaw_law_767 (by omega) (by omega) ?_
  refine g_bz 768 775 776 dLaw_law_768 dLaw_law_771 dLaw_law_772 dLaw_law_775 rfl rfl rfl ?_
  refine g_callV 776 [_, _, _] dLaw_law_776 cs_Law_77 rfl (ci := 10) rfl (by decide) hS1.mod rfl ⟨by show rM.frames + 1 ≤ 10; omega, by show 8 + (4 + 11) + rM.locals ≤ 362; omega⟩ (Nat.le_of_ble_eq_true rfl) hM (by omega) (by omega) ?_
  rintro _ M2 ⟨rfl, hJ⟩
  refine g_icmp_eq 779 994 dLaw_law_779 rfl (fun _ => ?_) (fun h => absurd rfl h)
  exact G.bud bc0 bs0 (by omega) (by omega) (ih M2 hJ)
set_option maxRecDepth 100000 in
set_option maxHeartbeats 4000000 in
theorem g_law_13 {X : mX} {l : Launch} {M : mM} {i bc bs bc0 bs0 : Nat} {J : mM → Prop} {Q : Option Value → mM → Prop} (hL : xL X 0 ≤ 3584) (hi : i + 6 < xL X 0) (h1 : bc0 + 40 ≤ bc) (h2 : bs0 + 400 ≤ bs) (hS : Shp M) (hp : Prx X l uLink_bytes uMod_bytes [.int (xI X 0 (i + 1)), .int (xI X 0 (i + 2)), .int (bz (xI X 0 (i + 3)))] M J) (ih : ∀ M2, J M2 → G X l uLaw room_1 bc0 bs0 M2 994 [some (.ref 0), some (.ref 3), some (.ref 169), some (.int (nI i))] [] Q) : G X l uLaw room_1 bc bs M 784 [some (.ref 0), some (.ref 3), some (.ref 169), some (.int (nI i))] [] Q := by
  obtain ⟨rC, rM, ⟨c1, c2, c3, c4⟩, ⟨m1, m2, m3, m4⟩, hC⟩ := hp
  refine g_aload_n 784 dLaw_law_784 rfl ?_
  refine g_aload_n 785 dLaw_law_785 rfl ?_
  refine g_iload_n 786 dLaw_law_786 rfl ?_
  refine g_iconst 787 (nI 1) dLaw_law_787 rfl ?_
  refine g_iaddN 788 dLaw_law_788 ?_
  refine g_oaldN 789 (by decide) dLaw_law_789 (by omega) (by omega) ?_
  refine g_aload_n 790 dLaw_law_790 rfl ?_
  refine g_iload_n 791 dLaw_law_791 rfl ?_
  refine g_iconst 792 (nI 2) dLaw_law_792 rfl ?_
  refine g_iaddN 793 dLaw_law_793 ?_
  refine g_oaldN 794 (by decide) dLaw_law_794 (by omega) (by omega) ?_
  refine g_aload_n 795 dLaw_law_795 rfl ?_
  refine g_iload_n 796 dLaw_law_796 rfl ?_
  refine g_iconst 797 (nI 3) dLaw_law_797 rfl ?_
  refine g_iaddN 798 dLaw_law_798 ?_
  refine g_oaldN 799 (by decide) dLaw_law_799 (by omega) (by omega) ?_
  refine g_bz 800 807 808 dLaw_law_800 dLaw_law_803 dLaw_law_804 dLaw_law_807 rfl rfl rfl ?_
  refine g_callV 808 [_, _, _] dLaw_law_808 cs_Law_78 rfl (ci := 0) rfl (by decide) hS.link rfl ⟨by show rC.frames + 1 ≤ 10; omega, by show 8 + (5 + 11) + rC.locals ≤ 362; omega⟩ (Nat.le_of_ble_eq_true rfl) hC (by omega) (by omega) ?_
  rintro _ M1 ⟨v, rfl, hS1, hM⟩
  refine g_aload_n 811 dLaw_law_811 rfl ?_
  refine g_aload_n 812 dLaw_law_812 rfl ?_
  refine g_iload_n 813 dLaw_law_813 rfl ?_
  refine g_iconst 814 (nI 1) dLaw_law_814 rfl ?_
  refine g_iaddN 815 dLaw_law_815 ?_
  refine g_oaldN 816 (by decide) dLaw_law_816 (by omega) (by omega) ?_
  refine g_aload_n 817 dLaw_law_817 rfl ?_
  refine g_iload_n 818 dLaw_law_818 rfl ?_
  refine g_iconst 819 (nI 2) dLaw_law_819 rfl ?_
  refine g_iaddN 820 dLaw_law_820 ?_
  refine g_oaldN 821 (by decide) dLaw_law_821 (by omega) (by omega) ?_
  refine g_aload_n 822 dLaw_law_822 rfl ?_
  refine g_iload_n 823 dLaw_law_823 rfl ?_
  refine g_iconst 824 (nI 3) dLaw_law_824 rfl ?_
  refine g_iaddN 825 dLaw_law_825 ?_
  refine g_oaldN 826 (by decide) dLaw_law_826 (by omega) (by omega) ?_
  refine g_bz 827 834 835 dLaw_law_827 dLaw_law_830 dLaw_law_831 dLaw_law_834 rfl rfl rfl ?_
  refine g_callV 835 [_, _, _] dLaw_law_835 cs_Law_81 rfl (ci := 10) rfl (by decide) hS1.mod rfl ⟨by show rM.frames + 1 ≤ 10; omega, by show 8 + (4 + 11) + rM.locals ≤ 362; omega⟩ (Nat.le_of_ble_eq_true rfl) hM (by omega) (by omega) ?_
  rintro _ M2 ⟨rfl, hJ⟩
  refine g_icmp_eq 838 994 dLaw_law_838 rfl (fun _ => ?_) (fun h => absurd rfl h)
  exact G.bud bc0 bs0 (by omega) (by omega) (ih M2 hJ)
set_option maxRecDepth 100000 in
set_option maxHeartbeats 4000000 in
theorem g_law_14 {X : mX} {l : Launch} {M : mM} {i bc bs bc0 bs0 : Nat} {J : mM → Prop} {Q : Option Value → mM → Prop} (hL : xL X 0 ≤ 3584) (hi : i + 6 < xL X 0) (h1 : bc0 + 40 ≤ bc) (h2 : bs0 + 400 ≤ bs) (hS : Shp M) (hp : Prx X l uLink_field uMod_field [.int (xI X 0 (i + 1)), .int (xI X 0 (i + 2)), .int (xI X 0 (i + 3)), .int (bz (xI X 0 (i + 4)))] M J) (ih : ∀ M2, J M2 → G X l uLaw room_1 bc0 bs0 M2 994 [some (.ref 0), some (.ref 3), some (.ref 169), some (.int (nI i))] [] Q) : G X l uLaw room_1 bc bs M 843 [some (.ref 0), some (.ref 3), some (.ref 169), some (.int (nI i))] [] Q := by
  obtain ⟨rC, rM, ⟨c1, c2, c3, c4⟩, ⟨m1, m2, m3, m4⟩, hC⟩ := hp
  refine g_aload_n 843 dLaw_law_843 rfl ?_
  refine g_aload_n 844 dLaw_law_844 rfl ?_
  refine g_iload_n 845 dLaw_law_845 rfl ?_
  refine g_iconst 846 (nI 1) dLaw_law_846 rfl ?_
  refine g_iaddN 847 dLaw_law_847 ?_
  refine g_oaldN 848 (by decide) dLaw_law_848 (by omega) (by omega) ?_
  refine g_aload_n 849 dLaw_law_849 rfl ?_
  refine g_iload_n 850 dLaw_law_850 rfl ?_
  refine g_iconst 851 (nI 2) dLaw_law_851 rfl ?_
  refine g_iaddN 852 dLaw_law_852 ?_
  refine g_oaldN 853 (by decide) dLaw_law_853 (by omega) (by omega) ?_
  refine g_aload_n 854 dLaw_law_854 rfl ?_
  refine g_iload_n 855 dLaw_law_855 rfl ?_
  refine g_iconst 856 (nI 3) dLaw_law_856 rfl ?_
  refine g_iaddN 857 dLaw_law_857 ?_
  refine g_oaldN 858 (by decide) dLaw_law_858 (by omega) (by omega) ?_
  refine g_aload_n 859 dLaw_law_859 rfl ?_
  refine g_iload_n 860 dLaw_law_860 rfl ?_
  refine g_iconst 861 (nI 4) dLaw_law_861 rfl ?_
  refine g_iaddN 862 dLaw_law_862 ?_
  refine g_oaldN 863 (by decide) dLaw_law_863 (by omega) (by omega) ?_
  refine g_bz 864 871 872 dLaw_law_864 dLaw_law_867 dLaw_law_868 dLaw_law_871 rfl rfl rfl ?_
  refine g_callV 872 [_, _, _, _] dLaw_law_872 cs_Law_82 rfl (ci := 0) rfl (by decide) hS.link rfl ⟨by show rC.frames + 1 ≤ 10; omega, by show 8 + (6 + 11) + rC.locals ≤ 362; omega⟩ (Nat.le_of_ble_eq_true rfl) hC (by omega) (by omega) ?_
  rintro _ M1 ⟨v, rfl, hS1, hM⟩
  refine g_aload_n 875 dLaw_law_875 rfl ?_
  refine g_aload_n 876 dLaw_law_876 rfl ?_
  refine g_iload_n 877 dLaw_law_877 rfl ?_
  refine g_iconst 878 (nI 1) dLaw_law_878 rfl ?_
  refine g_iaddN 879 dLaw_law_879 ?_
  refine g_oaldN 880 (by decide) dLaw_law_880 (by omega) (by omega) ?_
  refine g_aload_n 881 dLaw_law_881 rfl ?_
  refine g_iload_n 882 dLaw_law_882 rfl ?_
  refine g_iconst 883 (nI 2) dLaw_law_883 rfl ?_
  refine g_iaddN 884 dLaw_law_884 ?_
  refine g_oaldN 885 (by decide) dLaw_law_885 (by omega) (by omega) ?_
  refine g_aload_n 886 dLaw_law_886 rfl ?_
  refine g_iload_n 887 dLaw_law_887 rfl ?_
  refine g_iconst 888 (nI 3) dLaw_law_888 rfl ?_
  refine g_iaddN 889 dLaw_law_889 ?_
  refine g_oaldN 890 (by decide) dLaw_law_890 (by omega) (by omega) ?_
  refine g_aload_n 891 dLaw_law_891 rfl ?_
  refine g_iload_n 892 dLaw_law_892 rfl ?_
  refine g_iconst 893 (nI 4) dLaw_law_893 rfl ?_
  refine g_iaddN 894 dLaw_law_894 ?_
  refine g_oaldN 895 (by decide) dLaw_law_895 (by omega) (by omega) ?_
  refine g_bz 896 903 904 dLaw_law_896 dLaw_law_899 dLaw_law_900 dLaw_law_903 rfl rfl rfl ?_
  refine g_callV 904 [_, _, _, _] dLaw_law_904 cs_Law_85 rfl (ci := 10) rfl (by decide) hS1.mod rfl ⟨by show rM.frames + 1 ≤ 10; omega, by show 8 + (6 + 11) + rM.locals ≤ 362; omega⟩ (Nat.le_of_ble_eq_true rfl) hM (by omega) (by omega) ?_
  rintro _ M2 ⟨rfl, hJ⟩
  refine g_icmp_eq 907 994 dLaw_law_907 rfl (fun _ => ?_) (fun h => absurd rfl h)
  exact G.bud bc0 bs0 (by omega) (by omega) (ih M2 hJ)
set_option maxRecDepth 100000 in
set_option maxHeartbeats 4000000 in
theorem g_law_15 {X : mX} {l : Launch} {M : mM} {i bc bs bc0 bs0 : Nat} {J : mM → Prop} {Q : Option Value → mM → Prop} (hL : xL X 0 ≤ 3584) (hi : i + 6 < xL X 0) (h1 : bc0 + 40 ≤ bc) (h2 : bs0 + 400 ≤ bs) (hS : Shp M) (hp : Prx X l uLink_table uMod_table [.int (xI X 0 (i + 1)), .int (bz (xI X 0 (i + 2))), .int (xI X 0 (i + 3))] M J) (ih : ∀ M2, J M2 → G X l uLaw room_1 bc0 bs0 M2 994 [some (.ref 0), some (.ref 3), some (.ref 169), some (.int (nI i))] [] Q) : G X l uLaw room_1 bc bs M 912 [some (.ref 0), some (.ref 3), some (.ref 169), some (.int (nI i))] [] Q := by
  obtain ⟨rC, rM, ⟨c1, c2, c3, c4⟩, ⟨m1, m2, m3, m4⟩, hC⟩ := hp
  refine g_aload_n 912 dLaw_law_912 rfl ?_
  refine g_aload_n 913 dLaw_law_913 rfl ?_
  refine g_iload_n 914 dLaw_law_914 rfl ?_
  refine g_iconst 915 (nI 1) dLaw_law_915 rfl ?_
  refine g_iaddN 916 dLaw_law_916 ?_
  refine g_oaldN 917 (by decide) dLaw_law_917 (by omega) (by omega) ?_
  refine g_aload_n 918 dLaw_law_918 rfl ?_
  refine g_iload_n 919 dLaw_law_919 rfl ?_
  refine g_iconst 920 (nI 2) dLaw_law_920 rfl ?_
  refine g_iaddN 921 dLaw_law_921 ?_
  refine g_oaldN 922 (by decide) dLaw_law_922 (by omega) (by omega) ?_
  refine g_bz 923 930 931 dLaw_law_923 dLaw_law_926 dLaw_law_927 dLaw_law_930 rfl rfl rfl ?_
  refine g_aload_n 931 dLaw_law_931 rfl ?_
  refine g_iload_n 932 dLaw_law_932 rfl ?_
  refine g_iconst 933 (nI 3) dLaw_law_933 rfl ?_
  refine g_iaddN 934 dLaw_law_934 ?_
  refine g_oaldN 935 (by decide) dLaw_law_935 (by omega) (by omega) ?_
  refine g_callV 936 [_, _, _] dLaw_law_936 cs_Law_86 rfl (ci := 0) rfl (by decide) hS.link rfl ⟨by show rC.frames + 1 ≤ 10; omega, by show 8 + (6 + 11) + rC.locals ≤ 362; omega⟩ (Nat.le_of_ble_eq_true rfl) hC (by omega) (by omega) ?_
  rintro _ M1 ⟨v, rfl, hS1, hM⟩
  refine g_aload_n 939 dLaw_law_939 rfl ?_
  refine g_aload_n 940 dLaw_law_940 rfl ?_
  refine g_iload_n 941 dLaw_law_941 rfl ?_
  refine g_iconst 942 (nI 1) dLaw_law_942 rfl ?_
  refine g_iaddN 943 dLaw_law_943 ?_
  refine g_oaldN 944 (by decide) dLaw_law_944 (by omega) (by omega) ?_
  refine g_aload_n 945 dLaw_law_945 rfl ?_
  refine g_iload_n 946 dLaw_law_946 rfl ?_
  refine g_iconst 947 (nI 2) dLaw_law_947 rfl ?_
  refine g_iaddN 948 dLaw_law_948 ?_
  refine g_oaldN 949 (by decide) dLaw_law_949 (by omega) (by omega) ?_
  refine g_bz 950 957 958 dLaw_law_950 dLaw_law_953 dLaw_law_954 dLaw_law_957 rfl rfl rfl ?_
  refine g_aload_n 958 dLaw_law_958 rfl ?_
  refine g_iload_n 959 dLaw_law_959 rfl ?_
  refine g_iconst 960 (nI 3) dLaw_law_960 rfl ?_
  refine g_iaddN 961 dLaw_law_961 ?_
  refine g_oaldN 962 (by decide) dLaw_law_962 (by omega) (by omega) ?_
  refine g_callV 963 [_, _, _] dLaw_law_963 cs_Law_90 rfl (ci := 10) rfl (by decide) hS1.mod rfl ⟨by show rM.frames + 1 ≤ 10; omega, by show 8 + (5 + 11) + rM.locals ≤ 362; omega⟩ (Nat.le_of_ble_eq_true rfl) hM (by omega) (by omega) ?_
  rintro _ M2 ⟨rfl, hJ⟩
  refine g_icmp_eq 966 994 dLaw_law_966 rfl (fun _ => ?_) (fun h => absurd rfl h)
  exact G.bud bc0 bs0 (by omega) (by omega) (ih M2 hJ)
set_option maxRecDepth 100000 in
set_option maxHeartbeats 4000000 in
theorem g_law_16 {X : mX} {l : Launch} {M : mM} {i bc bs bc0 bs0 : Nat} {J : mM → Prop} {Q : Option Value → mM → Prop} (hL : xL X 0 ≤ 3584) (hi : i + 6 < xL X 0) (h1 : bc0 + 40 ≤ bc) (h2 : bs0 + 400 ≤ bs) (hS : Shp M) (hp : Prx X l uLink_down uMod_down [.int (xI X 0 (i + 1))] M J) (ih : ∀ M2, J M2 → G X l uLaw room_1 bc0 bs0 M2 994 [some (.ref 0), some (.ref 3), some (.ref 169), some (.int (nI i))] [] Q) : G X l uLaw room_1 bc bs M 971 [some (.ref 0), some (.ref 3), some (.ref 169), some (.int (nI i))] [] Q := by
  obtain ⟨rC, rM, ⟨c1, c2, c3, c4⟩, ⟨m1, m2, m3, m4⟩, hC⟩ := hp
  refine g_aload_n 971 dLaw_law_971 rfl ?_
  refine g_aload_n 972 dLaw_law_972 rfl ?_
  refine g_iload_n 973 dLaw_law_973 rfl ?_
  refine g_iconst 974 (nI 1) dLaw_law_974 rfl ?_
  refine g_iaddN 975 dLaw_law_975 ?_
  refine g_oaldN 976 (by decide) dLaw_law_976 (by omega) (by omega) ?_
  refine g_callV 977 [_] dLaw_law_977 cs_Law_91 rfl (ci := 0) rfl (by decide) hS.link rfl ⟨by show rC.frames + 1 ≤ 10; omega, by show 8 + (3 + 11) + rC.locals ≤ 362; omega⟩ (Nat.le_of_ble_eq_true rfl) hC (by omega) (by omega) ?_
  rintro _ M1 ⟨v, rfl, hS1, hM⟩
  refine g_aload_n 980 dLaw_law_980 rfl ?_
  refine g_aload_n 981 dLaw_law_981 rfl ?_
  refine g_iload_n 982 dLaw_law_982 rfl ?_
  refine g_iconst 983 (nI 1) dLaw_law_983 rfl ?_
  refine g_iaddN 984 dLaw_law_984 ?_
  refine g_oaldN 985 (by decide) dLaw_law_985 (by omega) (by omega) ?_
  refine g_callV 986 [_] dLaw_law_986 cs_Law_94 rfl (ci := 10) rfl (by decide) hS1.mod rfl ⟨by show rM.frames + 1 ≤ 10; omega, by show 8 + (2 + 11) + rM.locals ≤ 362; omega⟩ (Nat.le_of_ble_eq_true rfl) hM (by omega) (by omega) ?_
  rintro _ M2 ⟨rfl, hJ⟩
  refine g_icmp_eq 989 994 dLaw_law_989 rfl (fun _ => ?_) (fun h => absurd rfl h)
  exact G.bud bc0 bs0 (by omega) (by omega) (ih M2 hJ)
