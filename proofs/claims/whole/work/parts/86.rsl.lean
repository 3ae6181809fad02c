theorem dMod_sendList_0 : decode uMod_sendList.2.1 0 = .ok (.aload_n 0, 1) := by decide +kernel
theorem dMod_sendList_1 : decode uMod_sendList.2.1 1 = .ok (.iconst 1, 1) := by decide +kernel
theorem dMod_sendList_2 : decode uMod_sendList.2.1 2 = .ok (.iload_n 1, 1) := by decide +kernel
theorem dMod_sendList_3 : decode uMod_sendList.2.1 3 = .ok (.isub, 1) := by decide +kernel
theorem dMod_sendList_4 : decode uMod_sendList.2.1 4 = .ok (.iconst 1, 1) := by decide +kernel
theorem dMod_sendList_5 : decode uMod_sendList.2.1 5 = .ok (.iload_n 2, 1) := by decide +kernel
theorem dMod_sendList_6 : decode uMod_sendList.2.1 6 = .ok (.iconst 0, 1) := by decide +kernel
theorem dMod_sendList_7 : decode uMod_sendList.2.1 7 = .ok (.iload_n 3, 1) := by decide +kernel
theorem dMod_sendList_8 : decode uMod_sendList.2.1 8 = .ok (.invokevirtual 182, 3) := by decide +kernel
theorem dMod_sendList_11 : decode uMod_sendList.2.1 11 = .ok (.istore 4, 2) := by decide +kernel
theorem dMod_sendList_13 : decode uMod_sendList.2.1 13 = .ok (.iconst 2, 1) := by decide +kernel
theorem dMod_sendList_14 : decode uMod_sendList.2.1 14 = .ok (.iload_n 1, 1) := by decide +kernel
theorem dMod_sendList_15 : decode uMod_sendList.2.1 15 = .ok (.imul, 1) := by decide +kernel
theorem dMod_sendList_16 : decode uMod_sendList.2.1 16 = .ok (.istore 5, 2) := by decide +kernel
theorem dMod_sendList_18 : decode uMod_sendList.2.1 18 = .ok (.aload_n 0, 1) := by decide +kernel
theorem dMod_sendList_19 : decode uMod_sendList.2.1 19 = .ok (.getfield 123, 3) := by decide +kernel
theorem dMod_sendList_22 : decode uMod_sendList.2.1 22 = .ok (.iload_n 1, 1) := by decide +kernel
theorem dMod_sendList_23 : decode uMod_sendList.2.1 23 = .ok (.baload, 1) := by decide +kernel
theorem dMod_sendList_24 : decode uMod_sendList.2.1 24 = .ok (.ifCond .eq 85, 3) := by decide +kernel
theorem dMod_sendList_27 : decode uMod_sendList.2.1 27 = .ok (.aload_n 0, 1) := by decide +kernel
theorem dMod_sendList_28 : decode uMod_sendList.2.1 28 = .ok (.getfield 126, 3) := by decide +kernel
theorem dMod_sendList_31 : decode uMod_sendList.2.1 31 = .ok (.iload_n 1, 1) := by decide +kernel
theorem dMod_sendList_32 : decode uMod_sendList.2.1 32 = .ok (.iaload, 1) := by decide +kernel
theorem dMod_sendList_33 : decode uMod_sendList.2.1 33 = .ok (.aload_n 0, 1) := by decide +kernel
theorem dMod_sendList_34 : decode uMod_sendList.2.1 34 = .ok (.getfield 120, 3) := by decide +kernel
theorem dMod_sendList_37 : decode uMod_sendList.2.1 37 = .ok (.iconst 3, 1) := by decide +kernel
theorem dMod_sendList_38 : decode uMod_sendList.2.1 38 = .ok (.iload_n 1, 1) := by decide +kernel
theorem dMod_sendList_39 : decode uMod_sendList.2.1 39 = .ok (.imul, 1) := by decide +kernel
theorem dMod_sendList_40 : decode uMod_sendList.2.1 40 = .ok (.iaload, 1) := by decide +kernel
theorem dMod_sendList_41 : decode uMod_sendList.2.1 41 = .ok (.if_icmp .ge 30, 3) := by decide +kernel
theorem dMod_sendList_44 : decode uMod_sendList.2.1 44 = .ok (.aload_n 0, 1) := by decide +kernel
theorem dMod_sendList_45 : decode uMod_sendList.2.1 45 = .ok (.iload 4, 2) := by decide +kernel
theorem dMod_sendList_47 : decode uMod_sendList.2.1 47 = .ok (.iconst 0, 1) := by decide +kernel
theorem dMod_sendList_48 : decode uMod_sendList.2.1 48 = .ok (.aload_n 0, 1) := by decide +kernel
theorem dMod_sendList_49 : decode uMod_sendList.2.1 49 = .ok (.getfield 126, 3) := by decide +kernel
theorem dMod_sendList_52 : decode uMod_sendList.2.1 52 = .ok (.iload_n 1, 1) := by decide +kernel
theorem dMod_sendList_53 : decode uMod_sendList.2.1 53 = .ok (.iaload, 1) := by decide +kernel
theorem dMod_sendList_54 : decode uMod_sendList.2.1 54 = .ok (.iconst 0, 1) := by decide +kernel
theorem dMod_sendList_55 : decode uMod_sendList.2.1 55 = .ok (.iconst 0, 1) := by decide +kernel
theorem dMod_sendList_56 : decode uMod_sendList.2.1 56 = .ok (.invokevirtual 219, 3) := by decide +kernel
theorem dMod_sendList_59 : decode uMod_sendList.2.1 59 = .ok (.aload_n 0, 1) := by decide +kernel
theorem dMod_sendList_60 : decode uMod_sendList.2.1 60 = .ok (.iload 5, 2) := by decide +kernel
theorem dMod_sendList_62 : decode uMod_sendList.2.1 62 = .ok (.aload_n 0, 1) := by decide +kernel
theorem dMod_sendList_63 : decode uMod_sendList.2.1 63 = .ok (.getfield 126, 3) := by decide +kernel
theorem dMod_sendList_66 : decode uMod_sendList.2.1 66 = .ok (.iload_n 1, 1) := by decide +kernel
theorem dMod_sendList_67 : decode uMod_sendList.2.1 67 = .ok (.iaload, 1) := by decide +kernel
theorem dMod_sendList_68 : decode uMod_sendList.2.1 68 = .ok (.invokevirtual 223, 3) := by decide +kernel
theorem dMod_sendList_71 : decode uMod_sendList.2.1 71 = .ok (.aload_n 0, 1) := by decide +kernel
theorem dMod_sendList_72 : decode uMod_sendList.2.1 72 = .ok (.iload 4, 2) := by decide +kernel
theorem dMod_sendList_74 : decode uMod_sendList.2.1 74 = .ok (.iconst 0, 1) := by decide +kernel
theorem dMod_sendList_75 : decode uMod_sendList.2.1 75 = .ok (.aload_n 0, 1) := by decide +kernel
theorem dMod_sendList_76 : decode uMod_sendList.2.1 76 = .ok (.getfield 120, 3) := by decide +kernel
theorem dMod_sendList_79 : decode uMod_sendList.2.1 79 = .ok (.iconst 3, 1) := by decide +kernel
theorem dMod_sendList_80 : decode uMod_sendList.2.1 80 = .ok (.iload_n 1, 1) := by decide +kernel
theorem dMod_sendList_81 : decode uMod_sendList.2.1 81 = .ok (.imul, 1) := by decide +kernel
theorem dMod_sendList_82 : decode uMod_sendList.2.1 82 = .ok (.iaload, 1) := by decide +kernel
theorem dMod_sendList_83 : decode uMod_sendList.2.1 83 = .ok (.iconst 0, 1) := by decide +kernel
theorem dMod_sendList_84 : decode uMod_sendList.2.1 84 = .ok (.iconst 0, 1) := by decide +kernel
theorem dMod_sendList_85 : decode uMod_sendList.2.1 85 = .ok (.invokevirtual 219, 3) := by decide +kernel
theorem dMod_sendList_88 : decode uMod_sendList.2.1 88 = .ok (.aload_n 0, 1) := by decide +kernel
theorem dMod_sendList_89 : decode uMod_sendList.2.1 89 = .ok (.iload 5, 2) := by decide +kernel
theorem dMod_sendList_91 : decode uMod_sendList.2.1 91 = .ok (.aload_n 0, 1) := by decide +kernel
theorem dMod_sendList_92 : decode uMod_sendList.2.1 92 = .ok (.getfield 120, 3) := by decide +kernel
theorem dMod_sendList_95 : decode uMod_sendList.2.1 95 = .ok (.iconst 3, 1) := by decide +kernel
theorem dMod_sendList_96 : decode uMod_sendList.2.1 96 = .ok (.iload_n 1, 1) := by decide +kernel
theorem dMod_sendList_97 : decode uMod_sendList.2.1 97 = .ok (.imul, 1) := by decide +kernel
theorem dMod_sendList_98 : decode uMod_sendList.2.1 98 = .ok (.iaload, 1) := by decide +kernel
theorem dMod_sendList_99 : decode uMod_sendList.2.1 99 = .ok (.invokevirtual 223, 3) := by decide +kernel
theorem dMod_sendList_102 : decode uMod_sendList.2.1 102 = .ok (.aload_n 0, 1) := by decide +kernel
theorem dMod_sendList_103 : decode uMod_sendList.2.1 103 = .ok (.getfield 123, 3) := by decide +kernel
theorem dMod_sendList_106 : decode uMod_sendList.2.1 106 = .ok (.iload_n 1, 1) := by decide +kernel
theorem dMod_sendList_107 : decode uMod_sendList.2.1 107 = .ok (.iconst 0, 1) := by decide +kernel
theorem dMod_sendList_108 : decode uMod_sendList.2.1 108 = .ok (.bastore, 1) := by decide +kernel
theorem dMod_sendList_109 : decode uMod_sendList.2.1 109 = .ok (.iconst 0, 1) := by decide +kernel
theorem dMod_sendList_110 : decode uMod_sendList.2.1 110 = .ok (.istore 6, 2) := by decide +kernel
theorem dMod_sendList_112 : decode uMod_sendList.2.1 112 = .ok (.iload 6, 2) := by decide +kernel
theorem dMod_sendList_114 : decode uMod_sendList.2.1 114 = .ok (.aload_n 0, 1) := by decide +kernel
theorem dMod_sendList_115 : decode uMod_sendList.2.1 115 = .ok (.getfield 153, 3) := by decide +kernel
theorem dMod_sendList_118 : decode uMod_sendList.2.1 118 = .ok (.iload_n 1, 1) := by decide +kernel
theorem dMod_sendList_119 : decode uMod_sendList.2.1 119 = .ok (.iaload, 1) := by decide +kernel
theorem dMod_sendList_120 : decode uMod_sendList.2.1 120 = .ok (.if_icmp .ge 155, 3) := by decide +kernel
theorem dMod_sendList_123 : decode uMod_sendList.2.1 123 = .ok (.aload_n 0, 1) := by decide +kernel
theorem dMod_sendList_124 : decode uMod_sendList.2.1 124 = .ok (.getfield 156, 3) := by decide +kernel
theorem dMod_sendList_127 : decode uMod_sendList.2.1 127 = .ok (.bipush 6, 2) := by decide +kernel
theorem dMod_sendList_129 : decode uMod_sendList.2.1 129 = .ok (.iload_n 1, 1) := by decide +kernel
theorem dMod_sendList_130 : decode uMod_sendList.2.1 130 = .ok (.imul, 1) := by decide +kernel
theorem dMod_sendList_131 : decode uMod_sendList.2.1 131 = .ok (.iload 6, 2) := by decide +kernel
theorem dMod_sendList_133 : decode uMod_sendList.2.1 133 = .ok (.iadd, 1) := by decide +kernel
theorem dMod_sendList_134 : decode uMod_sendList.2.1 134 = .ok (.iaload, 1) := by decide +kernel
theorem dMod_sendList_135 : decode uMod_sendList.2.1 135 = .ok (.istore 7, 2) := by decide +kernel
theorem dMod_sendList_137 : decode uMod_sendList.2.1 137 = .ok (.aload_n 0, 1) := by decide +kernel
theorem dMod_sendList_138 : decode uMod_sendList.2.1 138 = .ok (.getfield 159, 3) := by decide +kernel
theorem dMod_sendList_141 : decode uMod_sendList.2.1 141 = .ok (.bipush 6, 2) := by decide +kernel
theorem dMod_sendList_143 : decode uMod_sendList.2.1 143 = .ok (.iload_n 1, 1) := by decide +kernel
theorem dMod_sendList_144 : decode uMod_sendList.2.1 144 = .ok (.imul, 1) := by decide +kernel
theorem dMod_sendList_145 : decode uMod_sendList.2.1 145 = .ok (.iload 6, 2) := by decide +kernel
theorem dMod_sendList_147 : decode uMod_sendList.2.1 147 = .ok (.iadd, 1) := by decide +kernel
theorem dMod_sendList_148 : decode uMod_sendList.2.1 148 = .ok (.iaload, 1) := by decide +kernel
theorem dMod_sendList_149 : decode uMod_sendList.2.1 149 = .ok (.istore 8, 2) := by decide +kernel
theorem dMod_sendList_151 : decode uMod_sendList.2.1 151 = .ok (.aload_n 0, 1) := by decide +kernel
theorem dMod_sendList_152 : decode uMod_sendList.2.1 152 = .ok (.getfield 162, 3) := by decide +kernel
theorem dMod_sendList_155 : decode uMod_sendList.2.1 155 = .ok (.bipush 6, 2) := by decide +kernel
theorem dMod_sendList_157 : decode uMod_sendList.2.1 157 = .ok (.iload_n 1, 1) := by decide +kernel
theorem dMod_sendList_158 : decode uMod_sendList.2.1 158 = .ok (.imul, 1) := by decide +kernel
theorem dMod_sendList_159 : decode uMod_sendList.2.1 159 = .ok (.iload 6, 2) := by decide +kernel
theorem dMod_sendList_161 : decode uMod_sendList.2.1 161 = .ok (.iadd, 1) := by decide +kernel
theorem dMod_sendList_162 : decode uMod_sendList.2.1 162 = .ok (.baload, 1) := by decide +kernel
theorem dMod_sendList_163 : decode uMod_sendList.2.1 163 = .ok (.ifCond .eq 7, 3) := by decide +kernel
theorem dMod_sendList_166 : decode uMod_sendList.2.1 166 = .ok (.iconst 0, 1) := by decide +kernel
theorem dMod_sendList_167 : decode uMod_sendList.2.1 167 = .ok (.goto 14, 3) := by decide +kernel
theorem dMod_sendList_170 : decode uMod_sendList.2.1 170 = .ok (.aload_n 0, 1) := by decide +kernel
theorem dMod_sendList_171 : decode uMod_sendList.2.1 171 = .ok (.iload 5, 2) := by decide +kernel
theorem dMod_sendList_173 : decode uMod_sendList.2.1 173 = .ok (.iload 7, 2) := by decide +kernel
theorem dMod_sendList_175 : decode uMod_sendList.2.1 175 = .ok (.iload 8, 2) := by decide +kernel
theorem dMod_sendList_177 : decode uMod_sendList.2.1 177 = .ok (.iconst 1, 1) := by decide +kernel
theorem dMod_sendList_178 : decode uMod_sendList.2.1 178 = .ok (.invokevirtual 226, 3) := by decide +kernel
theorem dMod_sendList_181 : decode uMod_sendList.2.1 181 = .ok (.istore 9, 2) := by decide +kernel
theorem dMod_sendList_183 : decode uMod_sendList.2.1 183 = .ok (.aload_n 0, 1) := by decide +kernel
theorem dMod_sendList_184 : decode uMod_sendList.2.1 184 = .ok (.iload 5, 2) := by decide +kernel
theorem dMod_sendList_186 : decode uMod_sendList.2.1 186 = .ok (.iload 7, 2) := by decide +kernel
theorem dMod_sendList_188 : decode uMod_sendList.2.1 188 = .ok (.iload 8, 2) := by decide +kernel
theorem dMod_sendList_190 : decode uMod_sendList.2.1 190 = .ok (.iconst 0, 1) := by decide +kernel
theorem dMod_sendList_191 : decode uMod_sendList.2.1 191 = .ok (.invokevirtual 226, 3) := by decide +kernel
theorem dMod_sendList_194 : decode uMod_sendList.2.1 194 = .ok (.istore 10, 2) := by decide +kernel
theorem dMod_sendList_196 : decode uMod_sendList.2.1 196 = .ok (.aload_n 0, 1) := by decide +kernel
theorem dMod_sendList_197 : decode uMod_sendList.2.1 197 = .ok (.getfield 162, 3) := by decide +kernel
theorem dMod_sendList_200 : decode uMod_sendList.2.1 200 = .ok (.bipush 6, 2) := by decide +kernel
theorem dMod_sendList_202 : decode uMod_sendList.2.1 202 = .ok (.iload_n 1, 1) := by decide +kernel
theorem dMod_sendList_203 : decode uMod_sendList.2.1 203 = .ok (.imul, 1) := by decide +kernel
theorem dMod_sendList_204 : decode uMod_sendList.2.1 204 = .ok (.iload 6, 2) := by decide +kernel
theorem dMod_sendList_206 : decode uMod_sendList.2.1 206 = .ok (.iadd, 1) := by decide +kernel
theorem dMod_sendList_207 : decode uMod_sendList.2.1 207 = .ok (.baload, 1) := by decide +kernel
theorem dMod_sendList_208 : decode uMod_sendList.2.1 208 = .ok (.ifCond .eq 19, 3) := by decide +kernel
theorem dMod_sendList_211 : decode uMod_sendList.2.1 211 = .ok (.aload_n 0, 1) := by decide +kernel
theorem dMod_sendList_212 : decode uMod_sendList.2.1 212 = .ok (.iload 4, 2) := by decide +kernel
theorem dMod_sendList_214 : decode uMod_sendList.2.1 214 = .ok (.iconst 3, 1) := by decide +kernel
theorem dMod_sendList_215 : decode uMod_sendList.2.1 215 = .ok (.iload 10, 2) := by decide +kernel
theorem dMod_sendList_217 : decode uMod_sendList.2.1 217 = .ok (.iload 7, 2) := by decide +kernel
theorem dMod_sendList_219 : decode uMod_sendList.2.1 219 = .ok (.iload 8, 2) := by decide +kernel
theorem dMod_sendList_221 : decode uMod_sendList.2.1 221 = .ok (.invokevirtual 219, 3) := by decide +kernel
theorem dMod_sendList_224 : decode uMod_sendList.2.1 224 = .ok (.goto 45, 3) := by decide +kernel
theorem dMod_sendList_227 : decode uMod_sendList.2.1 227 = .ok (.iload 9, 2) := by decide +kernel
theorem dMod_sendList_229 : decode uMod_sendList.2.1 229 = .ok (.ifCond .le 17, 3) := by decide +kernel
theorem dMod_sendList_232 : decode uMod_sendList.2.1 232 = .ok (.aload_n 0, 1) := by decide +kernel
theorem dMod_sendList_233 : decode uMod_sendList.2.1 233 = .ok (.iload 4, 2) := by decide +kernel
theorem dMod_sendList_235 : decode uMod_sendList.2.1 235 = .ok (.iconst 1, 1) := by decide +kernel
theorem dMod_sendList_236 : decode uMod_sendList.2.1 236 = .ok (.iload 9, 2) := by decide +kernel
theorem dMod_sendList_238 : decode uMod_sendList.2.1 238 = .ok (.iconst 0, 1) := by decide +kernel
theorem dMod_sendList_239 : decode uMod_sendList.2.1 239 = .ok (.iconst 0, 1) := by decide +kernel
theorem dMod_sendList_240 : decode uMod_sendList.2.1 240 = .ok (.invokevirtual 219, 3) := by decide +kernel
theorem dMod_sendList_243 : decode uMod_sendList.2.1 243 = .ok (.goto 26, 3) := by decide +kernel
theorem dMod_sendList_246 : decode uMod_sendList.2.1 246 = .ok (.aload_n 0, 1) := by decide +kernel
theorem dMod_sendList_247 : decode uMod_sendList.2.1 247 = .ok (.iload 4, 2) := by decide +kernel
theorem dMod_sendList_249 : decode uMod_sendList.2.1 249 = .ok (.iconst 2, 1) := by decide +kernel
theorem dMod_sendList_250 : decode uMod_sendList.2.1 250 = .ok (.iload 10, 2) := by decide +kernel
theorem dMod_sendList_252 : decode uMod_sendList.2.1 252 = .ok (.iload 7, 2) := by decide +kernel
theorem dMod_sendList_254 : decode uMod_sendList.2.1 254 = .ok (.iload 8, 2) := by decide +kernel
theorem dMod_sendList_256 : decode uMod_sendList.2.1 256 = .ok (.invokevirtual 219, 3) := by decide +kernel
theorem dMod_sendList_259 : decode uMod_sendList.2.1 259 = .ok (.aload_n 0, 1) := by decide +kernel
theorem dMod_sendList_260 : decode uMod_sendList.2.1 260 = .ok (.iload 5, 2) := by decide +kernel
theorem dMod_sendList_262 : decode uMod_sendList.2.1 262 = .ok (.iload 7, 2) := by decide +kernel
theorem dMod_sendList_264 : decode uMod_sendList.2.1 264 = .ok (.iload 8, 2) := by decide +kernel
theorem dMod_sendList_266 : decode uMod_sendList.2.1 266 = .ok (.invokevirtual 230, 3) := by decide +kernel
theorem dMod_sendList_269 : decode uMod_sendList.2.1 269 = .ok (.iinc 6 1, 3) := by decide +kernel
theorem dMod_sendList_272 : decode uMod_sendList.2.1 272 = .ok (.goto (-160), 3) := by decide +kernel
theorem dMod_sendList_275 : decode uMod_sendList.2.1 275 = .ok (.aload_n 0, 1) := by decide +kernel
theorem dMod_sendList_276 : decode uMod_sendList.2.1 276 = .ok (.getfield 153, 3) := by decide +kernel
theorem dMod_sendList_279 : decode uMod_sendList.2.1 279 = .ok (.iload_n 1, 1) := by decide +kernel
theorem dMod_sendList_280 : decode uMod_sendList.2.1 280 = .ok (.iconst 0, 1) := by decide +kernel
theorem dMod_sendList_281 : decode uMod_sendList.2.1 281 = .ok (.iastore, 1) := by decide +kernel
theorem dMod_sendList_282 : decode uMod_sendList.2.1 282 = .ok (.aload_n 0, 1) := by decide +kernel
theorem dMod_sendList_283 : decode uMod_sendList.2.1 283 = .ok (.getfield 57, 3) := by decide +kernel
theorem dMod_sendList_286 : decode uMod_sendList.2.1 286 = .ok (.iload_n 1, 1) := by decide +kernel
theorem dMod_sendList_287 : decode uMod_sendList.2.1 287 = .ok (.iload_n 2, 1) := by decide +kernel
theorem dMod_sendList_288 : decode uMod_sendList.2.1 288 = .ok (.invokestatic 190, 3) := by decide +kernel
theorem dMod_sendList_291 : decode uMod_sendList.2.1 291 = .ok (.aload_n 0, 1) := by decide +kernel
theorem dMod_sendList_292 : decode uMod_sendList.2.1 292 = .ok (.getfield 57, 3) := by decide +kernel
theorem dMod_sendList_295 : decode uMod_sendList.2.1 295 = .ok (.iload_n 1, 1) := by decide +kernel
theorem dMod_sendList_296 : decode uMod_sendList.2.1 296 = .ok (.iload_n 2, 1) := by decide +kernel
theorem dMod_sendList_297 : decode uMod_sendList.2.1 297 = .ok (.invokestatic 190, 3) := by decide +kernel
theorem dMod_sendList_300 : decode uMod_sendList.2.1 300 = .ok (.baload, 1) := by decide +kernel
theorem dMod_sendList_301 : decode uMod_sendList.2.1 301 = .ok (.ifCond .ne 7, 3) := by decide +kernel
theorem dMod_sendList_304 : decode uMod_sendList.2.1 304 = .ok (.iload_n 3, 1) := by decide +kernel
theorem dMod_sendList_305 : decode uMod_sendList.2.1 305 = .ok (.ifCond .eq 7, 3) := by decide +kernel
theorem dMod_sendList_308 : decode uMod_sendList.2.1 308 = .ok (.iconst 1, 1) := by decide +kernel
theorem dMod_sendList_309 : decode uMod_sendList.2.1 309 = .ok (.goto 4, 3) := by decide +kernel
theorem dMod_sendList_312 : decode uMod_sendList.2.1 312 = .ok (.iconst 0, 1) := by decide +kernel
theorem dMod_sendList_313 : decode uMod_sendList.2.1 313 = .ok (.bastore, 1) := by decide +kernel
theorem dMod_sendList_314 : decode uMod_sendList.2.1 314 = .ok (.return_, 1) := by decide +kernel
theorem cs_Mod_226 : cV "InterleavedLinkModel" 226 uMod_indexOf 4 := ⟨⟨Or.inl (gW_in 1198 (by decide +kernel) rfl), (gW_in 74 (by decide +kernel) rfl), (gW_in 1201 (by decide +kernel) rfl), ⟨by decide, by decide⟩, by decide +kernel⟩, (gW_in 1200 (by decide +kernel) rfl), (gW_in 59 (by decide +kernel) rfl)⟩
/-! ===== the reference over the state: a list sent, the whole ===== -/
theorem yB_same {A : zA} {e g : Nat} {v : List (Int32 × Int32) × Int32} (h : v = zB A e g) : yB A e g v = A := by
  have : up2 (zB A) e g v = zB A := by
    funext b i
    unfold up2
    split
    · rename_i q
      obtain ⟨rfl, rfl⟩ := q
      exact h
    · rfl
  unfold yB
  rw [this]
theorem yB_yB {A : zA} {e g : Nat} {v w : List (Int32 × Int32) × Int32} : yB (yB A e g v) e g w = yB A e g w := by
  have : up2 (up2 (zB A) e g v) e g w = up2 (zB A) e g w := by
    funext b i
    unfold up2
    split <;> rfl
  show (_, _, _, _, _, up2 (up2 (zB A) e g v) e g w, _) = (_, _, _, _, _, up2 (zB A) e g w, _)
  rw [this]
  rfl
theorem zB_s {A : zA} {e g : Nat} {v : List (Int32 × Int32) × Int32} : zB (yB A e g v) e g = v := up2_same
set_option maxRecDepth 100000 in
set_option maxHeartbeats 4000000 in
theorem g_sl {X : mX} {l : Launch} {M : mM} {e k sl mm : Nat} {z : Int32} {K : List (Int32 × Int32 × Int32)} {Q : Option Value → mM → Prop} (he : e < 2) (hk : k < 12) (hmm : mm ≤ 200) : ∀ (R : List (Int32 × Int32 × Int32)) (n : Nat) (B : zA) (S : List zS) (M1 : mM), RR M1 (push B (1 - e) (hfr (nI (2 * k + 1)) z S)) → Chg M M1 mP no2 → lastS M1 (1 - e) (zP B (1 - e)).length sl → zK B e = K → (zB B e 0).2 = nI mm → K.drop n = R → n ≤ K.length → S.length + R.length ≤ 8 → (∀ M' v7 v8 v9 v10, RR M' (push (yB B e 0 (encT (nI mm) R (zB B e 0).1, nI mm)) (1 - e) (hfr (nI (2 * k + 1)) z (S ++ encQ (nI mm) R (zB B e 0).1))) → Chg M M' mP no2 → sl < 96 → G X l uMod_sendList (rk 3 68) 0 0 M' 275 [some (.ref 169), some (.int (nI e)), some (.int (nI (2 * k + 1))), some (.int z), some (.int (nI sl)), some (.int (nI (2 * e))), some (.int (nI K.length)), v7, v8, v9, v10] [] Q) → ∀ v7 v8 v9 v10, G X l uMod_sendList (rk 3 68) 0 0 M1 112 [some (.ref 169), some (.int (nI e)), some (.int (nI (2 * k + 1))), some (.int z), some (.int (nI sl)), some (.int (nI (2 * e))), some (.int (nI n)), v7, v8, v9, v10] [] Q
  | [], n, B, S, M1, hR1, hC1, hla, hK, hmb, hRr, hn, h8, hq => by
    intro v7 v8 v9 v10
    have hmk : MkR M1 e K := by rw [← hK]; exact hR1.mk he
    have hk6 := hmk.2.1
    obtain ⟨_, hsl⟩ := hR1.lastF (by omega) hla
    have hle : K.length ≤ n := List.drop_eq_nil_iff.mp hRr
    have hnn : n = K.length := by omega
    subst hnn
    refine g_iload 112 dMod_sendList_112 rfl ?_
    refine g_aload_n 114 dMod_sendList_114 rfl ?_
    refine g_getr 115 10 48 dMod_sendList_115 fs_Mod_153 rfl hR1.1.mod hR1.1.R_making ?_
    refine g_iload_n 118 dMod_sendList_118 rfl ?_
    refine g_ialdN 119 dMod_sendList_119 hR1.1.T_making (by omega) (by decide) ?_
    refine g_top (nI (K.length)) (hmk.1) ?_
    refine g_icmp_geN 120 275 dMod_sendList_120 rfl (by omega) (by omega) (fun h120 => ?_) (fun h120 => ?_)
    · exact hq M1 _ _ _ _ (by rw [show encQ (nI mm) [] (zB B e 0).1 = [] from rfl, List.append_nil, show encT (nI mm) [] (zB B e 0).1 = (zB B e 0).1 from rfl, yB_same (by rw [← hmb])]; exact hR1) hC1 hsl
    · exact absurd (Nat.le_refl _) h120
  | x :: R, n, B, S, M1, hR1, hC1, hla, hK, hmb, hRr, hn, h8, hq => by
    intro v7 v8 v9 v10
    have hmk : MkR M1 e K := by rw [← hK]; exact hR1.mk he
    have hk6 := hmk.2.1
    obtain ⟨_, hsl⟩ := hR1.lastF (by omega) hla
    rw [List.length_cons] at h8
    have hlt : n < K.length := by
      apply Nat.lt_of_not_le
      intro q
      rw [List.drop_eq_nil_iff.mpr q] at hRr
      cases hRr
    have hx : K[n]? = some x := by
      have := congrArg (fun z => z[0]?) hRr
      simpa using this
    have hR2_ : K.drop (n + 1) = R := by
      rw [← List.drop_drop, hRr]
      rfl
    have zB_2 : (zB (yB B e 0 (encL (zB B e 0).1 (nI mm) x.1 x.2.1 x.2.2, nI mm)) e 0).2 = nI mm := by rw [zB_s]
    have hle := leT_le (zB B e 0).1 x.1 x.2.1 (6 + (zB B e 0).1.length) 1
    have hb5 := (hR1.tb he (g := 0) (by decide)).2.1
    change (zB B e 0).1.length ≤ 5 at hb5
    refine g_iload 112 dMod_sendList_112 rfl ?_
    refine g_aload_n 114 dMod_sendList_114 rfl ?_
    refine g_getr 115 10 48 dMod_sendList_115 fs_Mod_153 rfl hR1.1.mod hR1.1.R_making ?_
    refine g_iload_n 118 dMod_sendList_118 rfl ?_
    refine g_ialdN 119 dMod_sendList_119 hR1.1.T_making (by omega) (by decide) ?_
    refine g_top (nI (K.length)) (hmk.1) ?_
    refine g_icmp_geN 120 275 dMod_sendList_120 rfl (by omega) (by omega) (fun h120 => ?_) (fun h120 => ?_)
    · exact absurd h120 (by omega)
    · refine g_aload_n 123 dMod_sendList_123 rfl ?_
      refine g_getr 124 10 49 dMod_sendList_124 fs_Mod_156 rfl hR1.1.mod hR1.1.R_makingName ?_
      refine g_bipush 127 (nI 6) dMod_sendList_127 rfl ?_
      refine g_iload_n 129 dMod_sendList_129 rfl ?_
      refine g_imulN 130 dMod_sendList_130 ?_
      refine g_iload 131 dMod_sendList_131 rfl ?_
      refine g_iaddN 133 dMod_sendList_133 ?_
      refine g_ialdN 134 dMod_sendList_134 hR1.1.T_makingName (by omega) (by decide) ?_
      refine g_top (x.1) ((hmk.2.2 n x hx).1) ?_
      refine g_istore 135 dMod_sendList_135 (by decide) rfl ?_
      refine g_aload_n 137 dMod_sendList_137 rfl ?_
      refine g_getr 138 10 50 dMod_sendList_138 fs_Mod_159 rfl hR1.1.mod hR1.1.R_makingValue ?_
      refine g_bipush 141 (nI 6) dMod_sendList_141 rfl ?_
      refine g_iload_n 143 dMod_sendList_143 rfl ?_
      refine g_imulN 144 dMod_sendList_144 ?_
      refine g_iload 145 dMod_sendList_145 rfl ?_
      refine g_iaddN 147 dMod_sendList_147 ?_
      refine g_ialdN 148 dMod_sendList_148 hR1.1.T_makingValue (by omega) (by decide) ?_
      refine g_top (x.2.1) ((hmk.2.2 n x hx).2.1) ?_
      refine g_istore 149 dMod_sendList_149 (by decide) rfl ?_
      refine g_aload_n 151 dMod_sendList_151 rfl ?_
      refine g_getr 152 10 51 dMod_sendList_152 fs_Mod_162 rfl hR1.1.mod hR1.1.R_makingSecret ?_
      refine g_bipush 155 (nI 6) dMod_sendList_155 rfl ?_
      refine g_iload_n 157 dMod_sendList_157 rfl ?_
      refine g_imulN 158 dMod_sendList_158 ?_
      refine g_iload 159 dMod_sendList_159 rfl ?_
      refine g_iaddN 161 dMod_sendList_161 ?_
      refine g_zaldN 162 dMod_sendList_162 hR1.1.T_makingSecret (by omega) (by decide) ?_
      refine g_top (x.2.2) ((hmk.2.2 n x hx).2.2) ?_
      refine g_if_eq 163 170 dMod_sendList_163 rfl (fun h163 => ?_) (fun h163 => ?_)
      · refine g_aload_n 170 dMod_sendList_170 rfl ?_
        refine g_iload 171 dMod_sendList_171 rfl ?_
        refine g_iload 173 dMod_sendList_173 rfl ?_
        refine g_iload 175 dMod_sendList_175 rfl ?_
        refine g_iconst 177 1 dMod_sendList_177 rfl ?_
        refine g_callV 178 [_, _, _, _] dMod_sendList_178 cs_Mod_226 rfl (ci := 10) rfl (by decide) hR1.1.mod rfl ⟨(Nat.le_of_ble_eq_true rfl), (Nat.le_of_ble_eq_true rfl)⟩ (Nat.le_of_ble_eq_true rfl) (ct_rle hR1.1 (by omega) (show TbR M1 (2 * e) (zB B e 0).1 (zB B e 0).2 from hR1.tb he (g := 0) (by decide))) (Nat.le_of_ble_eq_true rfl) (Nat.le_of_ble_eq_true rfl) ?_
        rintro _ M2 ⟨rfl, hM2⟩
        rw [hM2]
        clear hM2 M2
        refine g_istore 181 dMod_sendList_181 (by decide) rfl ?_
        refine g_aload_n 183 dMod_sendList_183 rfl ?_
        refine g_iload 184 dMod_sendList_184 rfl ?_
        refine g_iload 186 dMod_sendList_186 rfl ?_
        refine g_iload 188 dMod_sendList_188 rfl ?_
        refine g_iconst 190 0 dMod_sendList_190 rfl ?_
        refine g_callV 191 [_, _, _, _] dMod_sendList_191 cs_Mod_226 rfl (ci := 10) rfl (by decide) hR1.1.mod rfl ⟨(Nat.le_of_ble_eq_true rfl), (Nat.le_of_ble_eq_true rfl)⟩ (Nat.le_of_ble_eq_true rfl) (ct_rln hR1.1 (by omega) (show TbR M1 (2 * e) (zB B e 0).1 (zB B e 0).2 from hR1.tb he (g := 0) (by decide))) (Nat.le_of_ble_eq_true rfl) (Nat.le_of_ble_eq_true rfl) ?_
        rintro _ M2 ⟨rfl, hM2⟩
        rw [hM2]
        clear hM2 M2
        refine g_istore 194 dMod_sendList_194 (by decide) rfl ?_
        refine g_aload_n 196 dMod_sendList_196 rfl ?_
        refine g_getr 197 10 51 dMod_sendList_197 fs_Mod_162 rfl hR1.1.mod hR1.1.R_makingSecret ?_
        refine g_bipush 200 (nI 6) dMod_sendList_200 rfl ?_
        refine g_iload_n 202 dMod_sendList_202 rfl ?_
        refine g_imulN 203 dMod_sendList_203 ?_
        refine g_iload 204 dMod_sendList_204 rfl ?_
        refine g_iaddN 206 dMod_sendList_206 ?_
        refine g_zaldN 207 dMod_sendList_207 hR1.1.T_makingSecret (by omega) (by decide) ?_
        refine g_top (x.2.2) ((hmk.2.2 n x hx).2.2) ?_
        refine g_if_eq 208 227 dMod_sendList_208 rfl (fun h208 => ?_) (fun h208 => ?_)
        · have h208_ := h208
          refine g_iload 227 dMod_sendList_227 rfl ?_
          refine g_if_leN 229 246 dMod_sendList_229 rfl (by omega) (fun h229 => ?_) (fun h229 => ?_)
          · refine g_aload_n 246 dMod_sendList_246 rfl ?_
            refine g_iload 247 dMod_sendList_247 rfl ?_
            refine g_iconst 249 2 dMod_sendList_249 rfl ?_
            refine g_iload 250 dMod_sendList_250 rfl ?_
            refine g_iload 252 dMod_sendList_252 rfl ?_
            refine g_iload 254 dMod_sendList_254 rfl ?_
            refine g_callV 256 [_, _, _, _, _] dMod_sendList_256 cs_Mod_219 rfl (ci := 10) rfl (by decide) hR1.1.mod rfl ⟨(Nat.le_of_ble_eq_true rfl), (Nat.le_of_ble_eq_true rfl)⟩ (Nat.le_of_ble_eq_true rfl) (ct_stepM hR1 he hla (by omega)) (Nat.le_of_ble_eq_true rfl) (Nat.le_of_ble_eq_true rfl) ?_
            rintro _ M2 ⟨rfl, hR2, hc2, hla2⟩
            have hC2 := hC1.tr hc2
            refine g_aload_n 259 dMod_sendList_259 rfl ?_
            refine g_iload 260 dMod_sendList_260 rfl ?_
            refine g_iload 262 dMod_sendList_262 rfl ?_
            refine g_iload 264 dMod_sendList_264 rfl ?_
            refine g_callV 266 [_, _, _] dMod_sendList_266 cs_Mod_230 rfl (ci := 10) rfl (by decide) hR2.1.mod rfl ⟨(Nat.le_of_ble_eq_true rfl), (Nat.le_of_ble_eq_true rfl)⟩ (Nat.le_of_ble_eq_true rfl) (ct_addM hR2 he hla2 hmb hmm) (Nat.le_of_ble_eq_true rfl) (Nat.le_of_ble_eq_true rfl) ?_
            rintro _ M3 ⟨rfl, hR3, hc3, hla3⟩
            have hC3 := hC2.tr hc3
            refine g_iincN 269 dMod_sendList_269 rfl (by decide) rfl ?_
            refine g_goto 272 112 dMod_sendList_272 rfl ?_
            have hz : RR M3 (push (yB B e 0 (encL (zB B e 0).1 (nI mm) x.1 x.2.1 x.2.2, nI mm)) (1 - e) (hfr (nI (2 * k + 1)) z (S ++ [encS (zB B e 0).1 x.1 x.2.1 x.2.2]))) := by rw [show encL (zB B e 0).1 (nI mm) x.1 x.2.1 x.2.2 = addT (zB B e 0).1 (nI mm) x.1 x.2.1 from by unfold encL; rw [if_pos h163, if_pos (by omega)], show encS (zB B e 0).1 x.1 x.2.1 x.2.2 = (2, nI (lnT (zB B e 0).1 x.1 (6 + (zB B e 0).1.length) 1), x.1, x.2.1) from by unfold encS; rw [if_pos h163, if_pos (by omega)]]; exact hR3
            refine g_sl he hk hmm R (n + 1) (yB B e 0 (encL (zB B e 0).1 (nI mm) x.1 x.2.1 x.2.2, nI mm)) (S ++ [encS (zB B e 0).1 x.1 x.2.1 x.2.2]) M3 hz hC3 hla3 hK zB_2 hR2_ hlt (by rw [List.length_append]; show S.length + 1 + R.length ≤ 8; omega) (fun M' v7 v8 v9 v10 h1 h2 h3 => ?_) _ _ _ _
            rw [zB_s, yB_yB] at h1
            rw [List.append_assoc] at h1
            exact hq M' v7 v8 v9 v10 h1 h2 h3
          · refine g_aload_n 232 dMod_sendList_232 rfl ?_
            refine g_iload 233 dMod_sendList_233 rfl ?_
            refine g_iconst 235 1 dMod_sendList_235 rfl ?_
            refine g_iload 236 dMod_sendList_236 rfl ?_
            refine g_iconst 238 0 dMod_sendList_238 rfl ?_
            refine g_iconst 239 0 dMod_sendList_239 rfl ?_
            refine g_callV 240 [_, _, _, _, _] dMod_sendList_240 cs_Mod_219 rfl (ci := 10) rfl (by decide) hR1.1.mod rfl ⟨(Nat.le_of_ble_eq_true rfl), (Nat.le_of_ble_eq_true rfl)⟩ (Nat.le_of_ble_eq_true rfl) (ct_stepM hR1 he hla (by omega)) (Nat.le_of_ble_eq_true rfl) (Nat.le_of_ble_eq_true rfl) ?_
            rintro _ M2 ⟨rfl, hR2, hc2, hla2⟩
            have hC2 := hC1.tr hc2
            refine g_goto 243 269 dMod_sendList_243 rfl ?_
            refine g_iincN 269 dMod_sendList_269 rfl (by decide) rfl ?_
            refine g_goto 272 112 dMod_sendList_272 rfl ?_
            have hz : RR M2 (push (yB B e 0 (encL (zB B e 0).1 (nI mm) x.1 x.2.1 x.2.2, nI mm)) (1 - e) (hfr (nI (2 * k + 1)) z (S ++ [encS (zB B e 0).1 x.1 x.2.1 x.2.2]))) := by rw [show encL (zB B e 0).1 (nI mm) x.1 x.2.1 x.2.2 = (zB B e 0).1 from by unfold encL; rw [if_pos h163, if_neg (by omega)], show encS (zB B e 0).1 x.1 x.2.1 x.2.2 = (1, nI (leT (zB B e 0).1 x.1 x.2.1 (6 + (zB B e 0).1.length) 1), 0, 0) from by unfold encS; rw [if_pos h163, if_neg (by omega)], yB_same (by rw [← hmb])]; exact hR2
            refine g_sl he hk hmm R (n + 1) (yB B e 0 (encL (zB B e 0).1 (nI mm) x.1 x.2.1 x.2.2, nI mm)) (S ++ [encS (zB B e 0).1 x.1 x.2.1 x.2.2]) M2 hz hC2 hla2 hK zB_2 hR2_ hlt (by rw [List.length_append]; show S.length + 1 + R.length ≤ 8; omega) (fun M' v7 v8 v9 v10 h1 h2 h3 => ?_) _ _ _ _
            rw [zB_s, yB_yB] at h1
            rw [List.append_assoc] at h1
            exact hq M' v7 v8 v9 v10 h1 h2 h3
        · have h208_ := h208
          refine g_aload_n 211 dMod_sendList_211 rfl ?_
          refine g_iload 212 dMod_sendList_212 rfl ?_
          refine g_iconst 214 3 dMod_sendList_214 rfl ?_
          refine g_iload 215 dMod_sendList_215 rfl ?_
          refine g_iload 217 dMod_sendList_217 rfl ?_
          refine g_iload 219 dMod_sendList_219 rfl ?_
          refine g_callV 221 [_, _, _, _, _] dMod_sendList_221 cs_Mod_219 rfl (ci := 10) rfl (by decide) hR1.1.mod rfl ⟨(Nat.le_of_ble_eq_true rfl), (Nat.le_of_ble_eq_true rfl)⟩ (Nat.le_of_ble_eq_true rfl) (ct_stepM hR1 he hla (by omega)) (Nat.le_of_ble_eq_true rfl) (Nat.le_of_ble_eq_true rfl) ?_
          rintro _ M2 ⟨rfl, hR2, hc2, hla2⟩
          have hC2 := hC1.tr hc2
          refine g_goto 224 269 dMod_sendList_224 rfl ?_
          refine g_iincN 269 dMod_sendList_269 rfl (by decide) rfl ?_
          refine g_goto 272 112 dMod_sendList_272 rfl ?_
          exact absurd h163 h208
      · refine g_iconst 166 (nI 0) dMod_sendList_166 rfl ?_
        refine g_goto 167 181 dMod_sendList_167 rfl ?_
        refine g_istore 181 dMod_sendList_181 (by decide) rfl ?_
        refine g_aload_n 183 dMod_sendList_183 rfl ?_
        refine g_iload 184 dMod_sendList_184 rfl ?_
        refine g_iload 186 dMod_sendList_186 rfl ?_
        refine g_iload 188 dMod_sendList_188 rfl ?_
        refine g_iconst 190 0 dMod_sendList_190 rfl ?_
        refine g_callV 191 [_, _, _, _] dMod_sendList_191 cs_Mod_226 rfl (ci := 10) rfl (by decide) hR1.1.mod rfl ⟨(Nat.le_of_ble_eq_true rfl), (Nat.le_of_ble_eq_true rfl)⟩ (Nat.le_of_ble_eq_true rfl) (ct_rln hR1.1 (by omega) (show TbR M1 (2 * e) (zB B e 0).1 (zB B e 0).2 from hR1.tb he (g := 0) (by decide))) (Nat.le_of_ble_eq_true rfl) (Nat.le_of_ble_eq_true rfl) ?_
        rintro _ M2 ⟨rfl, hM2⟩
        rw [hM2]
        clear hM2 M2
        refine g_istore 194 dMod_sendList_194 (by decide) rfl ?_
        refine g_aload_n 196 dMod_sendList_196 rfl ?_
        refine g_getr 197 10 51 dMod_sendList_197 fs_Mod_162 rfl hR1.1.mod hR1.1.R_makingSecret ?_
        refine g_bipush 200 (nI 6) dMod_sendList_200 rfl ?_
        refine g_iload_n 202 dMod_sendList_202 rfl ?_
        refine g_imulN 203 dMod_sendList_203 ?_
        refine g_iload 204 dMod_sendList_204 rfl ?_
        refine g_iaddN 206 dMod_sendList_206 ?_
        refine g_zaldN 207 dMod_sendList_207 hR1.1.T_makingSecret (by omega) (by decide) ?_
        refine g_top (x.2.2) ((hmk.2.2 n x hx).2.2) ?_
        refine g_if_eq 208 227 dMod_sendList_208 rfl (fun h208 => ?_) (fun h208 => ?_)
        · have h208_ := h208
          refine g_iload 227 dMod_sendList_227 rfl ?_
          refine g_if_leN 229 246 dMod_sendList_229 rfl (by omega) (fun h229 => ?_) (fun h229 => ?_)
          · refine g_aload_n 246 dMod_sendList_246 rfl ?_
            refine g_iload 247 dMod_sendList_247 rfl ?_
            refine g_iconst 249 2 dMod_sendList_249 rfl ?_
            refine g_iload 250 dMod_sendList_250 rfl ?_
            refine g_iload 252 dMod_sendList_252 rfl ?_
            refine g_iload 254 dMod_sendList_254 rfl ?_
            refine g_callV 256 [_, _, _, _, _] dMod_sendList_256 cs_Mod_219 rfl (ci := 10) rfl (by decide) hR1.1.mod rfl ⟨(Nat.le_of_ble_eq_true rfl), (Nat.le_of_ble_eq_true rfl)⟩ (Nat.le_of_ble_eq_true rfl) (ct_stepM hR1 he hla (by omega)) (Nat.le_of_ble_eq_true rfl) (Nat.le_of_ble_eq_true rfl) ?_
            rintro _ M2 ⟨rfl, hR2, hc2, hla2⟩
            have hC2 := hC1.tr hc2
            refine g_aload_n 259 dMod_sendList_259 rfl ?_
            refine g_iload 260 dMod_sendList_260 rfl ?_
            refine g_iload 262 dMod_sendList_262 rfl ?_
            refine g_iload 264 dMod_sendList_264 rfl ?_
            refine g_callV 266 [_, _, _] dMod_sendList_266 cs_Mod_230 rfl (ci := 10) rfl (by decide) hR2.1.mod rfl ⟨(Nat.le_of_ble_eq_true rfl), (Nat.le_of_ble_eq_true rfl)⟩ (Nat.le_of_ble_eq_true rfl) (ct_addM hR2 he hla2 hmb hmm) (Nat.le_of_ble_eq_true rfl) (Nat.le_of_ble_eq_true rfl) ?_
            rintro _ M3 ⟨rfl, hR3, hc3, hla3⟩
            have hC3 := hC2.tr hc3
            refine g_iincN 269 dMod_sendList_269 rfl (by decide) rfl ?_
            refine g_goto 272 112 dMod_sendList_272 rfl ?_
            exact absurd h208 h163
          · exact absurd (by decide) h229
        · have h208_ := h208
          refine g_aload_n 211 dMod_sendList_211 rfl ?_
          refine g_iload 212 dMod_sendList_212 rfl ?_
          refine g_iconst 214 3 dMod_sendList_214 rfl ?_
          refine g_iload 215 dMod_sendList_215 rfl ?_
          refine g_iload 217 dMod_sendList_217 rfl ?_
          refine g_iload 219 dMod_sendList_219 rfl ?_
          refine g_callV 221 [_, _, _, _, _] dMod_sendList_221 cs_Mod_219 rfl (ci := 10) rfl (by decide) hR1.1.mod rfl ⟨(Nat.le_of_ble_eq_true rfl), (Nat.le_of_ble_eq_true rfl)⟩ (Nat.le_of_ble_eq_true rfl) (ct_stepM hR1 he hla (by omega)) (Nat.le_of_ble_eq_true rfl) (Nat.le_of_ble_eq_true rfl) ?_
          rintro _ M2 ⟨rfl, hR2, hc2, hla2⟩
          have hC2 := hC1.tr hc2
          refine g_goto 224 269 dMod_sendList_224 rfl ?_
          refine g_iincN 269 dMod_sendList_269 rfl (by decide) rfl ?_
          refine g_goto 272 112 dMod_sendList_272 rfl ?_
          have hz : RR M2 (push (yB B e 0 (encL (zB B e 0).1 (nI mm) x.1 x.2.1 x.2.2, nI mm)) (1 - e) (hfr (nI (2 * k + 1)) z (S ++ [encS (zB B e 0).1 x.1 x.2.1 x.2.2]))) := by rw [show encL (zB B e 0).1 (nI mm) x.1 x.2.1 x.2.2 = (zB B e 0).1 from by unfold encL; rw [if_neg h163], show encS (zB B e 0).1 x.1 x.2.1 x.2.2 = (3, nI (lnT (zB B e 0).1 x.1 (6 + (zB B e 0).1.length) 1), x.1, x.2.1) from by unfold encS; rw [if_neg h163], yB_same (by rw [← hmb])]; exact hR2
          refine g_sl he hk hmm R (n + 1) (yB B e 0 (encL (zB B e 0).1 (nI mm) x.1 x.2.1 x.2.2, nI mm)) (S ++ [encS (zB B e 0).1 x.1 x.2.1 x.2.2]) M2 hz hC2 hla2 hK zB_2 hR2_ hlt (by rw [List.length_append]; show S.length + 1 + R.length ≤ 8; omega) (fun M' v7 v8 v9 v10 h1 h2 h3 => ?_) _ _ _ _
          rw [zB_s, yB_yB] at h1
          rw [List.append_assoc] at h1
          exact hq M' v7 v8 v9 v10 h1 h2 h3
theorem rr_mk0 {M : mM} {A : zA} {e : Nat} (h : RR M A) (he : e < 2) : RR (setI M 217 e 0) (yK A e []) := h.yK he ⟨sI_s, Nat.zero_le _, fun j x hx => by simp at hx⟩ (Chg.rf.setI (Or.inl (Or.inl ⟨rfl, rfl⟩)))
theorem RR.se0 {M : mM} {A : zA} {e k : Nat} (h : RR M A) (he : e < 2) (hk : k < 12) (hg : zI A (29 + 80 * e + 5 * k) 1 = 1 ∨ zI A (29 + 80 * e + 5 * k) 1 = 3) : RsentEnd M (12 * e + k) = 0 := by
  rcases (h.stk he hk).1 with w | w | w | w | w | w
  · exact w.2.2.2.2.1
  · exact w.2.2.2.2.1
  · rcases hg with q | q <;> exact absurd (w.1.symm.trans q) (by decide)
  · exact w.2.2.2.2.1
  · rcases hg with q | q <;> exact absurd (w.1.symm.trans q) (by decide)
  · rcases hg with q | q <;> exact absurd (w.1.symm.trans q) (by decide)
set_option maxRecDepth 100000 in
set_option maxHeartbeats 4000000 in
theorem g_slE {X : mX} {l : Launch} {M0 M : mM} {A : zA} {e k sl n : Nat} {z : Int32} {v7 v8 v9 v10 : Option Value} (hR : RR M A) (hC : Chg M0 M mP no2) (he : e < 2) (hk : k < 12) (hz : z = 0 ∨ z = 1) (hg : zI A (29 + 80 * e + 5 * k) 1 = 1 ∨ zI A (29 + 80 * e + 5 * k) 1 = 3) : G X l uMod_sendList (rk 3 68) 0 0 M 275 [some (.ref 169), some (.int (nI e)), some (.int (nI (2 * k + 1))), some (.int z), some (.int (nI sl)), some (.int (nI (2 * e))), some (.int (nI n)), v7, v8, v9, v10] [] (fun r M' => r = none ∧ RR M' (if z = 0 then yK A e [] else endS (yK A e []) e k) ∧ Chg M0 M' mP no2) := by
  refine g_aload_n 275 dMod_sendList_275 rfl ?_
  refine g_getr 276 10 48 dMod_sendList_276 fs_Mod_153 rfl hR.1.mod hR.1.R_making ?_
  refine g_iload_n 279 dMod_sendList_279 rfl ?_
  refine g_iconst 280 0 dMod_sendList_280 rfl ?_
  refine g_iastN 281 dMod_sendList_281 hR.1.T_making (by omega) (by decide) ?_
  refine g_memM (rr_mk0 hR he) (kM hC (by decide)) (fun M1 hR1 hC1 => ?_)
  refine g_aload_n 282 dMod_sendList_282 rfl ?_
  refine g_getr 283 10 15 dMod_sendList_283 fs_Mod_57 rfl hR1.1.mod hR1.1.R_sentEnd ?_
  refine g_iload_n 286 dMod_sendList_286 rfl ?_
  refine g_iload_n 287 dMod_sendList_287 rfl ?_
  refine g_callS 288 [_, _] dMod_sendList_288 cs_Mod_190 rfl rfl ⟨(Nat.le_of_ble_eq_true rfl), (Nat.le_of_ble_eq_true rfl)⟩ (Nat.le_of_ble_eq_true rfl) (ct_Mod_at (by omega) (by omega)) (Nat.le_of_ble_eq_true rfl) (Nat.le_of_ble_eq_true rfl) ?_
  rintro _ M2 ⟨rfl, hM2⟩
  rw [hM2]
  clear hM2 M2
  refine g_top (nI (12 * e + k)) (by rw [show (2 * k + 1) / 2 = k by omega]) ?_
  refine g_aload_n 291 dMod_sendList_291 rfl ?_
  refine g_getr 292 10 15 dMod_sendList_292 fs_Mod_57 rfl hR1.1.mod hR1.1.R_sentEnd ?_
  refine g_iload_n 295 dMod_sendList_295 rfl ?_
  refine g_iload_n 296 dMod_sendList_296 rfl ?_
  refine g_callS 297 [_, _] dMod_sendList_297 cs_Mod_190 rfl rfl ⟨(Nat.le_of_ble_eq_true rfl), (Nat.le_of_ble_eq_true rfl)⟩ (Nat.le_of_ble_eq_true rfl) (ct_Mod_at (by omega) (by omega)) (Nat.le_of_ble_eq_true rfl) (Nat.le_of_ble_eq_true rfl) ?_
  rintro _ M2 ⟨rfl, hM2⟩
  rw [hM2]
  clear hM2 M2
  refine g_top (nI (12 * e + k)) (by rw [show (2 * k + 1) / 2 = k by omega]) ?_
  refine g_zaldN 300 dMod_sendList_300 hR1.1.T_sentEnd (by omega) (by decide) ?_
  refine g_top (0) (hR1.se0 he hk hg) ?_
  refine g_if_ne 301 308 dMod_sendList_301 rfl (fun h301 => ?_) (fun h301 => ?_)
  · exact absurd rfl h301
  · refine g_iload_n 304 dMod_sendList_304 rfl ?_
    refine g_if_eq 305 312 dMod_sendList_305 rfl (fun h305 => ?_) (fun h305 => ?_)
    · refine g_iconst 312 0 dMod_sendList_312 rfl ?_
      refine g_top z (by first | exact h305.symm | exact (hz.resolve_left h305).symm) ?_
      refine g_zastN 313 dMod_sendList_313 hR1.1.T_sentEnd (by omega) (by decide) hz ?_
      refine g_memM (hR1.eS he hk hg hz) (kM hC1 (by decide)) (fun M2 hR2 hC2 => ?_)
      exact g_vret 314 dMod_sendList_314 rfl ⟨rfl, hR2, hC2⟩
    · refine g_iconst 308 1 dMod_sendList_308 rfl ?_
      refine g_goto 309 313 dMod_sendList_309 rfl ?_
      refine g_top z (by first | exact h305.symm | exact (hz.resolve_left h305).symm) ?_
      refine g_zastN 313 dMod_sendList_313 hR1.1.T_sentEnd (by omega) (by decide) hz ?_
      refine g_memM (hR1.eS he hk hg hz) (kM hC1 (by decide)) (fun M2 hR2 hC2 => ?_)
      exact g_vret 314 dMod_sendList_314 rfl ⟨rfl, hR2, hC2⟩
/-- a list sent: the frame, the coder, the list in the making; the stream's end -/
def slB (A : zA) (e k : Nat) (z : Int32) : zA := yK (push (encA A e) (1 - e) (hfr (nI (2 * k + 1)) z (encB A e))) e []
def slA (A : zA) (e k : Nat) (z : Int32) : zA := if z = 0 then slB A e k z else endS (slB A e k z) e k
theorem g_slL {X : mX} {l : Launch} {M0 M : mM} {A B : zA} {e k sl mm : Nat} {z : Int32} {S : List zS} (hR : RR M (push B (1 - e) (hfr (nI (2 * k + 1)) z S))) (hC : Chg M0 M mP no2) (he : e < 2) (hk : k < 12) (hla : lastS M (1 - e) (zP B (1 - e)).length sl) (hz : z = 0 ∨ z = 1) (hK : zK B e = zK A e) (hmb : (zB B e 0).2 = nI mm) (hmm : mm ≤ 200) (h8 : S.length + (zK A e).length ≤ 8) (hg : zI A (29 + 80 * e + 5 * k) 1 = 1 ∨ zI A (29 + 80 * e + 5 * k) 1 = 3) (eA : encA A e = yB B e 0 (encT (nI mm) (zK A e) (zB B e 0).1, nI mm)) (eB : encB A e = S ++ encQ (nI mm) (zK A e) (zB B e 0).1) : ∀ v7 v8 v9 v10, G X l uMod_sendList (rk 3 68) 0 0 M 112 [some (.ref 169), some (.int (nI e)), some (.int (nI (2 * k + 1))), some (.int z), some (.int (nI sl)), some (.int (nI (2 * e))), some (.int (nI 0)), v7, v8, v9, v10] [] (fun r M' => r = none ∧ RR M' (slA A e k z) ∧ Chg M0 M' mP no2) := by
  refine g_sl (K := zK A e) he hk hmm (zK A e) 0 B S M hR hC hla hK hmb rfl (Nat.zero_le _) h8 fun M' v7 v8 v9 v10 h1 h2 h3 => ?_
  rw [← eA, ← eB] at h1
  unfold slA slB
  exact g_slE h1 h2 he hk hz (by show zI (encA A e) _ 1 = 1 ∨ zI (encA A e) _ 1 = 3; unfold encA; rw [zI_a (by omega)]; exact hg)
theorem encA_eq {A : zA} {e : Nat} {L : List (Int32 × Int32)} {m : Int32} {K : List (Int32 × Int32 × Int32)} : yI (yB A e 0 (encT m K L, m)) (14 + 80 * e) 1 0 = yB (yI (yB A e 0 (L, m)) (14 + 80 * e) 1 0) e 0 (encT m K (zB (yI (yB A e 0 (L, m)) (14 + 80 * e) 1 0) e 0).1, m) := by
  have h : (zB (yI (yB A e 0 (L, m)) (14 + 80 * e) 1 0) e 0) = (L, m) := zB_s (A := A)
  rw [h]
  show yI (yB A e 0 (encT m K L, m)) (14 + 80 * e) 1 0 = yI (yB (yB A e 0 (L, m)) e 0 (encT m K L, m)) (14 + 80 * e) 1 0
  rw [yB_yB]
theorem encB_eq {A : zA} {e : Nat} {L : List (Int32 × Int32)} {m : Int32} {K : List (Int32 × Int32 × Int32)} {S : List zS} : S ++ encQ m K L = S ++ encQ m K (zB (yI (yB A e 0 (L, m)) (14 + 80 * e) 1 0) e 0).1 := by
  have h : (zB (yI (yB A e 0 (L, m)) (14 + 80 * e) 1 0) e 0) = (L, m) := zB_s (A := A)
  rw [h]
theorem encA_eq2 {A : zA} {e : Nat} {L1 : List (Int32 × Int32)} {m1 m n : Int32} {K : List (Int32 × Int32 × Int32)} : yI (yB A e 0 (encT m K (dropT n L1), m)) (14 + 80 * e) 1 0 = yB (yI (yB (yB A e 0 (L1, m1)) e 0 (dropT n (zB (yB A e 0 (L1, m1)) e 0).1, m)) (14 + 80 * e) 1 0) e 0 (encT m K (zB (yI (yB (yB A e 0 (L1, m1)) e 0 (dropT n (zB (yB A e 0 (L1, m1)) e 0).1, m)) (14 + 80 * e) 1 0) e 0).1, m) := by
  rw [yB_yB, zB_s]
  exact encA_eq
theorem encB_eq2 {A : zA} {e : Nat} {L1 : List (Int32 × Int32)} {m1 m n : Int32} {K : List (Int32 × Int32 × Int32)} {S : List zS} : S ++ encQ m K (dropT n L1) = S ++ encQ m K (zB (yI (yB (yB A e 0 (L1, m1)) e 0 (dropT n (zB (yB A e 0 (L1, m1)) e 0).1, m)) (14 + 80 * e) 1 0) e 0).1 := by
  rw [yB_yB, zB_s]
  exact encB_eq
set_option maxRecDepth 100000 in
set_option maxHeartbeats 4000000 in
theorem ct_slM {X : mX} {l : Launch} {M : mM} {A : zA} {e k : Nat} (hR : RR M A) (he : e < 2) (hk : k < 12) {z : Int32} (hz : z = 0 ∨ z = 1) (hN : ¬ zI A (14 + 80 * e) 1 = 0 → (0 ≤ zI A (14 + 80 * e) 2 ∧ ∃ mt : Nat, mt ≤ 200 ∧ zI A (14 + 80 * e) 3 = nI mt)) {mm : Nat} (hmb : (zB A e 0).2 = nI mm) (hmm : mm ≤ 200) (hg : zI A (29 + 80 * e + 5 * k) 1 = 1 ∨ zI A (29 + 80 * e + 5 * k) 1 = 3) (hp : (zP A (1 - e)).length ≤ 44) : Ct X l uMod_sendList (rk 3 68) [.ref 169, .int (nI e), .int (nI (2 * k + 1)), .int z] M (fun r M' => r = none ∧ RR M' (slA A e k z) ∧ Chg M M' mP no2) := by
  refine Ct.of (by decide) (Nat.le_of_ble_eq_true rfl) ?_
  show G X l uMod_sendList (rk 3 68) 0 0 M 0 [some (.ref 169), some (.int (nI e)), some (.int (nI (2 * k + 1))), some (.int z), none, none, none, none, none, none, none] [] _
  have hC : Chg M M mP no2 := Chg.rf
  have hN3 : ¬ zI A (14 + 80 * e) 1 = 0 → 0 ≤ zI A (14 + 80 * e) 3 := fun q => by obtain ⟨_, mt, h1, h2⟩ := hN q; rw [h2]; exact nI_pos' (by omega)
  have hk6 := (hR.mk he).2.1
  refine g_aload_n 0 dMod_sendList_0 rfl ?_
  refine g_iconst 1 (nI 1) dMod_sendList_1 rfl ?_
  refine g_iload_n 2 dMod_sendList_2 rfl ?_
  refine g_isubN 3 dMod_sendList_3 (by omega) ?_
  refine g_iconst 4 1 dMod_sendList_4 rfl ?_
  refine g_iload_n 5 dMod_sendList_5 rfl ?_
  refine g_iconst 6 0 dMod_sendList_6 rfl ?_
  refine g_iload_n 7 dMod_sendList_7 rfl ?_
  refine g_callV 8 [_, _, _, _, _] dMod_sendList_8 cs_Mod_182 rfl (ci := 10) rfl (by decide) hR.1.mod rfl ⟨(Nat.le_of_ble_eq_true rfl), (Nat.le_of_ble_eq_true rfl)⟩ (Nat.le_of_ble_eq_true rfl) (ct_pushR hR (by omega) (show (zP A (1 - e)).length < 47 by omega) hz [] (fun q => absurd q (by decide)) (fun _ => rfl)) (Nat.le_of_ble_eq_true rfl) (Nat.le_of_ble_eq_true rfl) ?_
  rintro _ M1 ⟨sl, hsl, rfl, hla, hR1, hc⟩
  have hC1 := hC.tr hc
  rw [show ((1 : Int32), nI (2 * k + 1), (0 : Int32), z, (0 : Int32), ([] : List Int32), ([] : List zS)) = hfr (nI (2 * k + 1)) z [] from rfl] at hR1
  refine g_istore 11 dMod_sendList_11 (by decide) rfl ?_
  refine g_iconst 13 (nI 2) dMod_sendList_13 rfl ?_
  refine g_iload_n 14 dMod_sendList_14 rfl ?_
  refine g_imulN 15 dMod_sendList_15 ?_
  refine g_istore 16 dMod_sendList_16 (by decide) rfl ?_
  refine g_aload_n 18 dMod_sendList_18 rfl ?_
  refine g_getr 19 10 38 dMod_sendList_19 fs_Mod_123 rfl hR1.1.mod hR1.1.R_toldSince ?_
  refine g_iload_n 22 dMod_sendList_22 rfl ?_
  refine g_zaldN 23 dMod_sendList_23 hR1.1.T_toldSince (by omega) (by decide) ?_
  refine g_top (zI A (14 + 80 * e) 1) ((hR1.se he).2.2.1) ?_
  refine g_if_eq 24 109 dMod_sendList_24 rfl (fun h24 => ?_) (fun h24 => ?_)
  · have eM : encM A e = ((zB A e 0).1, (zB A e 0).2, []) := by unfold encM; rw [if_pos h24]
    refine g_iconst 109 (nI 0) dMod_sendList_109 rfl ?_
    refine g_istore 110 dMod_sendList_110 (by decide) rfl ?_
    exact g_slL (A := A) (B := A) (mm := mm) hR1 hC1 he hk hla hz rfl hmb hmm (by show 0 + _ ≤ 8; omega) hg (by unfold encA; rw [eM, ← hmb]; exact yI_same (by exact h24.symm)) (by unfold encB; rw [eM, ← hmb]) _ _ _ _
  · refine g_aload_n 27 dMod_sendList_27 rfl ?_
    refine g_getr 28 10 39 dMod_sendList_28 fs_Mod_126 rfl hR1.1.mod hR1.1.R_leastTold ?_
    refine g_iload_n 31 dMod_sendList_31 rfl ?_
    refine g_ialdN 32 dMod_sendList_32 hR1.1.T_leastTold (by omega) (by decide) ?_
    refine g_top (zI A (14 + 80 * e) 2) (((hR1.se he).2.2.2.1 h24).2) ?_
    refine g_aload_n 33 dMod_sendList_33 rfl ?_
    refine g_getr 34 10 37 dMod_sendList_34 fs_Mod_120 rfl hR1.1.mod hR1.1.R_told ?_
    refine g_iconst 37 (nI 3) dMod_sendList_37 rfl ?_
    refine g_iload_n 38 dMod_sendList_38 rfl ?_
    refine g_imulN 39 dMod_sendList_39 ?_
    refine g_ialdN 40 dMod_sendList_40 hR1.1.T_told (by omega) (by decide) ?_
    refine g_top (zI A (14 + 80 * e) 3) (((hR1.se he).2.2.2.1 h24).1) ?_
    refine g_icmp_ge 41 71 dMod_sendList_41 rfl (fun h41 => ?_) (fun h41 => ?_)
    · have eM : encM A e = (dropT (zI A (14 + 80 * e) 3) (zB A e 0).1, zI A (14 + 80 * e) 3, [(0, zI A (14 + 80 * e) 3, 0, 0)]) := by unfold encM; rw [if_neg h24, if_pos h41]
      refine g_aload_n 71 dMod_sendList_71 rfl ?_
      refine g_iload 72 dMod_sendList_72 rfl ?_
      refine g_iconst 74 0 dMod_sendList_74 rfl ?_
      refine g_aload_n 75 dMod_sendList_75 rfl ?_
      refine g_getr 76 10 37 dMod_sendList_76 fs_Mod_120 rfl hR1.1.mod hR1.1.R_told ?_
      refine g_iconst 79 (nI 3) dMod_sendList_79 rfl ?_
      refine g_iload_n 80 dMod_sendList_80 rfl ?_
      refine g_imulN 81 dMod_sendList_81 ?_
      refine g_ialdN 82 dMod_sendList_82 hR1.1.T_told (by omega) (by decide) ?_
      refine g_top (zI A (14 + 80 * e) 3) (((hR1.se he).2.2.2.1 h24).1) ?_
      refine g_iconst 83 0 dMod_sendList_83 rfl ?_
      refine g_iconst 84 0 dMod_sendList_84 rfl ?_
      refine g_callV 85 [_, _, _, _, _] dMod_sendList_85 cs_Mod_219 rfl (ci := 10) rfl (by decide) hR1.1.mod rfl ⟨(Nat.le_of_ble_eq_true rfl), (Nat.le_of_ble_eq_true rfl)⟩ (Nat.le_of_ble_eq_true rfl) (ct_stepM hR1 he hla (by simp)) (Nat.le_of_ble_eq_true rfl) (Nat.le_of_ble_eq_true rfl) ?_
      rintro _ M2 ⟨rfl, hR2, hc, hla_⟩
      have hC2 := hC1.tr hc
      clear hla
      have hla := hla_
      clear hla_
      refine g_aload_n 88 dMod_sendList_88 rfl ?_
      refine g_iload 89 dMod_sendList_89 rfl ?_
      refine g_aload_n 91 dMod_sendList_91 rfl ?_
      refine g_getr 92 10 37 dMod_sendList_92 fs_Mod_120 rfl hR2.1.mod hR2.1.R_told ?_
      refine g_iconst 95 (nI 3) dMod_sendList_95 rfl ?_
      refine g_iload_n 96 dMod_sendList_96 rfl ?_
      refine g_imulN 97 dMod_sendList_97 ?_
      refine g_ialdN 98 dMod_sendList_98 hR2.1.T_told (by omega) (by decide) ?_
      refine g_top (zI A (14 + 80 * e) 3) (((hR2.se he).2.2.2.1 h24).1) ?_
      refine g_callV 99 [_, _] dMod_sendList_99 cs_Mod_223 rfl (ci := 10) rfl (by decide) hR2.1.mod rfl ⟨(Nat.le_of_ble_eq_true rfl), (Nat.le_of_ble_eq_true rfl)⟩ (Nat.le_of_ble_eq_true rfl) (ct_bndM hR2 he hla (hN3 h24)) (Nat.le_of_ble_eq_true rfl) (Nat.le_of_ble_eq_true rfl) ?_
      rintro _ M3 ⟨rfl, hR3, hc, hla_⟩
      have hC3 := hC2.tr hc
      clear hla
      have hla := hla_
      clear hla_
      refine g_aload_n 102 dMod_sendList_102 rfl ?_
      refine g_getr 103 10 38 dMod_sendList_103 fs_Mod_123 rfl hR3.1.mod hR3.1.R_toldSince ?_
      refine g_iload_n 106 dMod_sendList_106 rfl ?_
      refine g_iconst 107 0 dMod_sendList_107 rfl ?_
      refine g_zastN 108 dMod_sendList_108 hR3.1.T_toldSince (by omega) (by decide) (by decide) ?_
      refine g_iconst 109 (nI 0) dMod_sendList_109 rfl ?_
      refine g_istore 110 dMod_sendList_110 (by decide) rfl ?_
      obtain ⟨_, mt, hm1, hm2⟩ := hN h24
      have hR9 := hR3.ts0 he
      exact g_slL (A := A) (B := yI (yB A e 0 (dropT (zI A (14 + 80 * e) 3) (zB A e 0).1, zI A (14 + 80 * e) 3)) (14 + 80 * e) 1 0) (mm := mt) hR9 (kM hC3 (by decide)) he hk (hla.mv (Chg.rf.setI (PI := fun a j => a = 207) (PR := no2) (Or.inl rfl)) hR3.1.1 fun a j q => by omega) hz rfl (by rw [← hm2]; exact congrArg Prod.snd (zB_s (A := A))) hm1 (by show 1 + _ ≤ 8; omega) hg (by unfold encA; rw [eM, ← hm2]; exact encA_eq) (by unfold encB; rw [eM, ← hm2]; exact encB_eq) _ _ _ _
    · have eM : encM A e = (dropT (zI A (14 + 80 * e) 3) (dropT (zI A (14 + 80 * e) 2) (zB A e 0).1), zI A (14 + 80 * e) 3, [(0, zI A (14 + 80 * e) 2, 0, 0), (0, zI A (14 + 80 * e) 3, 0, 0)]) := by unfold encM; rw [if_neg h24, if_neg h41]
      refine g_aload_n 44 dMod_sendList_44 rfl ?_
      refine g_iload 45 dMod_sendList_45 rfl ?_
      refine g_iconst 47 0 dMod_sendList_47 rfl ?_
      refine g_aload_n 48 dMod_sendList_48 rfl ?_
      refine g_getr 49 10 39 dMod_sendList_49 fs_Mod_126 rfl hR1.1.mod hR1.1.R_leastTold ?_
      refine g_iload_n 52 dMod_sendList_52 rfl ?_
      refine g_ialdN 53 dMod_sendList_53 hR1.1.T_leastTold (by omega) (by decide) ?_
      refine g_top (zI A (14 + 80 * e) 2) (((hR1.se he).2.2.2.1 h24).2) ?_
      refine g_iconst 54 0 dMod_sendList_54 rfl ?_
      refine g_iconst 55 0 dMod_sendList_55 rfl ?_
      refine g_callV 56 [_, _, _, _, _] dMod_sendList_56 cs_Mod_219 rfl (ci := 10) rfl (by decide) hR1.1.mod rfl ⟨(Nat.le_of_ble_eq_true rfl), (Nat.le_of_ble_eq_true rfl)⟩ (Nat.le_of_ble_eq_true rfl) (ct_stepM hR1 he hla (by decide)) (Nat.le_of_ble_eq_true rfl) (Nat.le_of_ble_eq_true rfl) ?_
      rintro _ M2 ⟨rfl, hR2, hc, hla_⟩
      have hC2 := hC1.tr hc
      clear hla
      have hla := hla_
      clear hla_
      refine g_aload_n 59 dMod_sendList_59 rfl ?_
      refine g_iload 60 dMod_sendList_60 rfl ?_
      refine g_aload_n 62 dMod_sendList_62 rfl ?_
      refine g_getr 63 10 39 dMod_sendList_63 fs_Mod_126 rfl hR2.1.mod hR2.1.R_leastTold ?_
      refine g_iload_n 66 dMod_sendList_66 rfl ?_
      refine g_ialdN 67 dMod_sendList_67 hR2.1.T_leastTold (by omega) (by decide) ?_
      refine g_top (zI A (14 + 80 * e) 2) (((hR2.se he).2.2.2.1 h24).2) ?_
      refine g_callV 68 [_, _] dMod_sendList_68 cs_Mod_223 rfl (ci := 10) rfl (by decide) hR2.1.mod rfl ⟨(Nat.le_of_ble_eq_true rfl), (Nat.le_of_ble_eq_true rfl)⟩ (Nat.le_of_ble_eq_true rfl) (ct_bndM hR2 he hla (hN h24).1) (Nat.le_of_ble_eq_true rfl) (Nat.le_of_ble_eq_true rfl) ?_
      rintro _ M3 ⟨rfl, hR3, hc, hla_⟩
      have hC3 := hC2.tr hc
      clear hla
      have hla := hla_
      clear hla_
      refine g_aload_n 71 dMod_sendList_71 rfl ?_
      refine g_iload 72 dMod_sendList_72 rfl ?_
      refine g_iconst 74 0 dMod_sendList_74 rfl ?_
      refine g_aload_n 75 dMod_sendList_75 rfl ?_
      refine g_getr 76 10 37 dMod_sendList_76 fs_Mod_120 rfl hR3.1.mod hR3.1.R_told ?_
      refine g_iconst 79 (nI 3) dMod_sendList_79 rfl ?_
      refine g_iload_n 80 dMod_sendList_80 rfl ?_
      refine g_imulN 81 dMod_sendList_81 ?_
      refine g_ialdN 82 dMod_sendList_82 hR3.1.T_told (by omega) (by decide) ?_
      refine g_top (zI A (14 + 80 * e) 3) (((hR3.se he).2.2.2.1 h24).1) ?_
      refine g_iconst 83 0 dMod_sendList_83 rfl ?_
      refine g_iconst 84 0 dMod_sendList_84 rfl ?_
      refine g_callV 85 [_, _, _, _, _] dMod_sendList_85 cs_Mod_219 rfl (ci := 10) rfl (by decide) hR3.1.mod rfl ⟨(Nat.le_of_ble_eq_true rfl), (Nat.le_of_ble_eq_true rfl)⟩ (Nat.le_of_ble_eq_true rfl) (ct_stepM hR3 he hla (by simp)) (Nat.le_of_ble_eq_true rfl) (Nat.le_of_ble_eq_true rfl) ?_
      rintro _ M4 ⟨rfl, hR4, hc, hla_⟩
      have hC4 := hC3.tr hc
      clear hla
      have hla := hla_
      clear hla_
      refine g_aload_n 88 dMod_sendList_88 rfl ?_
      refine g_iload 89 dMod_sendList_89 rfl ?_
      refine g_aload_n 91 dMod_sendList_91 rfl ?_
      refine g_getr 92 10 37 dMod_sendList_92 fs_Mod_120 rfl hR4.1.mod hR4.1.R_told ?_
      refine g_iconst 95 (nI 3) dMod_sendList_95 rfl ?_
      refine g_iload_n 96 dMod_sendList_96 rfl ?_
      refine g_imulN 97 dMod_sendList_97 ?_
      refine g_ialdN 98 dMod_sendList_98 hR4.1.T_told (by omega) (by decide) ?_
      refine g_top (zI A (14 + 80 * e) 3) (((hR4.se he).2.2.2.1 h24).1) ?_
      refine g_callV 99 [_, _] dMod_sendList_99 cs_Mod_223 rfl (ci := 10) rfl (by decide) hR4.1.mod rfl ⟨(Nat.le_of_ble_eq_true rfl), (Nat.le_of_ble_eq_true rfl)⟩ (Nat.le_of_ble_eq_true rfl) (ct_bndM hR4 he hla (hN3 h24)) (Nat.le_of_ble_eq_true rfl) (Nat.le_of_ble_eq_true rfl) ?_
      rintro _ M5 ⟨rfl, hR5, hc, hla_⟩
      have hC5 := hC4.tr hc
      clear hla
      have hla := hla_
      clear hla_
      refine g_aload_n 102 dMod_sendList_102 rfl ?_
      refine g_getr 103 10 38 dMod_sendList_103 fs_Mod_123 rfl hR5.1.mod hR5.1.R_toldSince ?_
      refine g_iload_n 106 dMod_sendList_106 rfl ?_
      refine g_iconst 107 0 dMod_sendList_107 rfl ?_
      refine g_zastN 108 dMod_sendList_108 hR5.1.T_toldSince (by omega) (by decide) (by decide) ?_
      refine g_iconst 109 (nI 0) dMod_sendList_109 rfl ?_
      refine g_istore 110 dMod_sendList_110 (by decide) rfl ?_
      obtain ⟨_, mt, hm1, hm2⟩ := hN h24
      have hR9 := hR5.ts0 he
      exact g_slL (A := A) (B := yI (yB (yB A e 0 (dropT (zI A (14 + 80 * e) 2) (zB A e 0).1, zI A (14 + 80 * e) 2)) e 0 (dropT (zI A (14 + 80 * e) 3) (zB (yB A e 0 (dropT (zI A (14 + 80 * e) 2) (zB A e 0).1, zI A (14 + 80 * e) 2)) e 0).1, zI A (14 + 80 * e) 3)) (14 + 80 * e) 1 0) (mm := mt) hR9 (kM hC5 (by decide)) he hk (hla.mv (Chg.rf.setI (PI := fun a j => a = 207) (PR := no2) (Or.inl rfl)) hR5.1.1 fun a j q => by omega) hz rfl (by rw [← hm2]; exact congrArg Prod.snd (zB_s (A := yB A e 0 _))) hm1 (by show 2 + _ ≤ 8; omega) hg (by unfold encA; rw [eM, ← hm2]; exact encA_eq2) (by unfold encB; rw [eM, ← hm2]; exact encB_eq2) _ _ _ _
