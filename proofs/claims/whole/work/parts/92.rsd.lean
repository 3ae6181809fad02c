theorem dMod_sendData_0 : decode uMod_sendData.2.1 0 = .ok (.bipush 12, 2) := by decide +kernel
theorem dMod_sendData_2 : decode uMod_sendData.2.1 2 = .ok (.iload_n 1, 1) := by decide +kernel
theorem dMod_sendData_3 : decode uMod_sendData.2.1 3 = .ok (.imul, 1) := by decide +kernel
theorem dMod_sendData_4 : decode uMod_sendData.2.1 4 = .ok (.iload_n 2, 1) := by decide +kernel
theorem dMod_sendData_5 : decode uMod_sendData.2.1 5 = .ok (.iadd, 1) := by decide +kernel
theorem dMod_sendData_6 : decode uMod_sendData.2.1 6 = .ok (.istore_n 3, 1) := by decide +kernel
theorem dMod_sendData_7 : decode uMod_sendData.2.1 7 = .ok (.aload_n 0, 1) := by decide +kernel
theorem dMod_sendData_8 : decode uMod_sendData.2.1 8 = .ok (.getfield 93, 3) := by decide +kernel
theorem dMod_sendData_11 : decode uMod_sendData.2.1 11 = .ok (.iload_n 3, 1) := by decide +kernel
theorem dMod_sendData_12 : decode uMod_sendData.2.1 12 = .ok (.iaload, 1) := by decide +kernel
theorem dMod_sendData_13 : decode uMod_sendData.2.1 13 = .ok (.bipush 8, 2) := by decide +kernel
theorem dMod_sendData_15 : decode uMod_sendData.2.1 15 = .ok (.if_icmp .ge 12, 3) := by decide +kernel
theorem dMod_sendData_18 : decode uMod_sendData.2.1 18 = .ok (.aload_n 0, 1) := by decide +kernel
theorem dMod_sendData_19 : decode uMod_sendData.2.1 19 = .ok (.getfield 93, 3) := by decide +kernel
theorem dMod_sendData_22 : decode uMod_sendData.2.1 22 = .ok (.iload_n 3, 1) := by decide +kernel
theorem dMod_sendData_23 : decode uMod_sendData.2.1 23 = .ok (.iaload, 1) := by decide +kernel
theorem dMod_sendData_24 : decode uMod_sendData.2.1 24 = .ok (.goto 5, 3) := by decide +kernel
theorem dMod_sendData_27 : decode uMod_sendData.2.1 27 = .ok (.bipush 8, 2) := by decide +kernel
theorem dMod_sendData_29 : decode uMod_sendData.2.1 29 = .ok (.istore 4, 2) := by decide +kernel
theorem dMod_sendData_31 : decode uMod_sendData.2.1 31 = .ok (.iload 4, 2) := by decide +kernel
theorem dMod_sendData_33 : decode uMod_sendData.2.1 33 = .ok (.ifCond .le 21, 3) := by decide +kernel
theorem dMod_sendData_36 : decode uMod_sendData.2.1 36 = .ok (.aload_n 0, 1) := by decide +kernel
theorem dMod_sendData_37 : decode uMod_sendData.2.1 37 = .ok (.iload_n 3, 1) := by decide +kernel
theorem dMod_sendData_38 : decode uMod_sendData.2.1 38 = .ok (.invokevirtual 288, 3) := by decide +kernel
theorem dMod_sendData_41 : decode uMod_sendData.2.1 41 = .ok (.iload 4, 2) := by decide +kernel
theorem dMod_sendData_43 : decode uMod_sendData.2.1 43 = .ok (.if_icmp .ge 11, 3) := by decide +kernel
theorem dMod_sendData_46 : decode uMod_sendData.2.1 46 = .ok (.aload_n 0, 1) := by decide +kernel
theorem dMod_sendData_47 : decode uMod_sendData.2.1 47 = .ok (.iload_n 3, 1) := by decide +kernel
theorem dMod_sendData_48 : decode uMod_sendData.2.1 48 = .ok (.invokevirtual 288, 3) := by decide +kernel
theorem dMod_sendData_51 : decode uMod_sendData.2.1 51 = .ok (.goto 5, 3) := by decide +kernel
theorem dMod_sendData_54 : decode uMod_sendData.2.1 54 = .ok (.iload 4, 2) := by decide +kernel
theorem dMod_sendData_56 : decode uMod_sendData.2.1 56 = .ok (.istore 4, 2) := by decide +kernel
theorem dMod_sendData_58 : decode uMod_sendData.2.1 58 = .ok (.iload 4, 2) := by decide +kernel
theorem dMod_sendData_60 : decode uMod_sendData.2.1 60 = .ok (.ifCond .le 21, 3) := by decide +kernel
theorem dMod_sendData_63 : decode uMod_sendData.2.1 63 = .ok (.aload_n 0, 1) := by decide +kernel
theorem dMod_sendData_64 : decode uMod_sendData.2.1 64 = .ok (.iload_n 1, 1) := by decide +kernel
theorem dMod_sendData_65 : decode uMod_sendData.2.1 65 = .ok (.invokevirtual 285, 3) := by decide +kernel
theorem dMod_sendData_68 : decode uMod_sendData.2.1 68 = .ok (.iload 4, 2) := by decide +kernel
theorem dMod_sendData_70 : decode uMod_sendData.2.1 70 = .ok (.if_icmp .ge 11, 3) := by decide +kernel
theorem dMod_sendData_73 : decode uMod_sendData.2.1 73 = .ok (.aload_n 0, 1) := by decide +kernel
theorem dMod_sendData_74 : decode uMod_sendData.2.1 74 = .ok (.iload_n 1, 1) := by decide +kernel
theorem dMod_sendData_75 : decode uMod_sendData.2.1 75 = .ok (.invokevirtual 285, 3) := by decide +kernel
theorem dMod_sendData_78 : decode uMod_sendData.2.1 78 = .ok (.goto 5, 3) := by decide +kernel
theorem dMod_sendData_81 : decode uMod_sendData.2.1 81 = .ok (.iload 4, 2) := by decide +kernel
theorem dMod_sendData_83 : decode uMod_sendData.2.1 83 = .ok (.istore 4, 2) := by decide +kernel
theorem dMod_sendData_85 : decode uMod_sendData.2.1 85 = .ok (.aload_n 0, 1) := by decide +kernel
theorem dMod_sendData_86 : decode uMod_sendData.2.1 86 = .ok (.getfield 69, 3) := by decide +kernel
theorem dMod_sendData_89 : decode uMod_sendData.2.1 89 = .ok (.iload_n 3, 1) := by decide +kernel
theorem dMod_sendData_90 : decode uMod_sendData.2.1 90 = .ok (.baload, 1) := by decide +kernel
theorem dMod_sendData_91 : decode uMod_sendData.2.1 91 = .ok (.ifCond .eq 18, 3) := by decide +kernel
theorem dMod_sendData_94 : decode uMod_sendData.2.1 94 = .ok (.aload_n 0, 1) := by decide +kernel
theorem dMod_sendData_95 : decode uMod_sendData.2.1 95 = .ok (.getfield 93, 3) := by decide +kernel
theorem dMod_sendData_98 : decode uMod_sendData.2.1 98 = .ok (.iload_n 3, 1) := by decide +kernel
theorem dMod_sendData_99 : decode uMod_sendData.2.1 99 = .ok (.iaload, 1) := by decide +kernel
theorem dMod_sendData_100 : decode uMod_sendData.2.1 100 = .ok (.iload 4, 2) := by decide +kernel
theorem dMod_sendData_102 : decode uMod_sendData.2.1 102 = .ok (.if_icmp .ne 7, 3) := by decide +kernel
theorem dMod_sendData_105 : decode uMod_sendData.2.1 105 = .ok (.iconst 1, 1) := by decide +kernel
theorem dMod_sendData_106 : decode uMod_sendData.2.1 106 = .ok (.goto 4, 3) := by decide +kernel
theorem dMod_sendData_109 : decode uMod_sendData.2.1 109 = .ok (.iconst 0, 1) := by decide +kernel
theorem dMod_sendData_110 : decode uMod_sendData.2.1 110 = .ok (.istore 5, 2) := by decide +kernel
theorem dMod_sendData_112 : decode uMod_sendData.2.1 112 = .ok (.aload_n 0, 1) := by decide +kernel
theorem dMod_sendData_113 : decode uMod_sendData.2.1 113 = .ok (.iconst 1, 1) := by decide +kernel
theorem dMod_sendData_114 : decode uMod_sendData.2.1 114 = .ok (.iload_n 1, 1) := by decide +kernel
theorem dMod_sendData_115 : decode uMod_sendData.2.1 115 = .ok (.isub, 1) := by decide +kernel
theorem dMod_sendData_116 : decode uMod_sendData.2.1 116 = .ok (.iconst 0, 1) := by decide +kernel
theorem dMod_sendData_117 : decode uMod_sendData.2.1 117 = .ok (.iconst 2, 1) := by decide +kernel
theorem dMod_sendData_118 : decode uMod_sendData.2.1 118 = .ok (.iload_n 2, 1) := by decide +kernel
theorem dMod_sendData_119 : decode uMod_sendData.2.1 119 = .ok (.imul, 1) := by decide +kernel
theorem dMod_sendData_120 : decode uMod_sendData.2.1 120 = .ok (.iconst 1, 1) := by decide +kernel
theorem dMod_sendData_121 : decode uMod_sendData.2.1 121 = .ok (.iadd, 1) := by decide +kernel
theorem dMod_sendData_122 : decode uMod_sendData.2.1 122 = .ok (.iload 4, 2) := by decide +kernel
theorem dMod_sendData_124 : decode uMod_sendData.2.1 124 = .ok (.iload 5, 2) := by decide +kernel
theorem dMod_sendData_126 : decode uMod_sendData.2.1 126 = .ok (.invokevirtual 182, 3) := by decide +kernel
theorem dMod_sendData_129 : decode uMod_sendData.2.1 129 = .ok (.istore 6, 2) := by decide +kernel
theorem dMod_sendData_131 : decode uMod_sendData.2.1 131 = .ok (.iconst 0, 1) := by decide +kernel
theorem dMod_sendData_132 : decode uMod_sendData.2.1 132 = .ok (.istore 7, 2) := by decide +kernel
theorem dMod_sendData_134 : decode uMod_sendData.2.1 134 = .ok (.iload 7, 2) := by decide +kernel
theorem dMod_sendData_136 : decode uMod_sendData.2.1 136 = .ok (.iload 4, 2) := by decide +kernel
theorem dMod_sendData_138 : decode uMod_sendData.2.1 138 = .ok (.if_icmp .ge 43, 3) := by decide +kernel
theorem dMod_sendData_141 : decode uMod_sendData.2.1 141 = .ok (.aload_n 0, 1) := by decide +kernel
theorem dMod_sendData_142 : decode uMod_sendData.2.1 142 = .ok (.getfield 35, 3) := by decide +kernel
theorem dMod_sendData_145 : decode uMod_sendData.2.1 145 = .ok (.iload 6, 2) := by decide +kernel
theorem dMod_sendData_147 : decode uMod_sendData.2.1 147 = .ok (.aload_n 0, 1) := by decide +kernel
theorem dMod_sendData_148 : decode uMod_sendData.2.1 148 = .ok (.getfield 35, 3) := by decide +kernel
theorem dMod_sendData_151 : decode uMod_sendData.2.1 151 = .ok (.iload 6, 2) := by decide +kernel
theorem dMod_sendData_153 : decode uMod_sendData.2.1 153 = .ok (.laload, 1) := by decide +kernel
theorem dMod_sendData_154 : decode uMod_sendData.2.1 154 = .ok (.aload_n 0, 1) := by decide +kernel
theorem dMod_sendData_155 : decode uMod_sendData.2.1 155 = .ok (.getfield 96, 3) := by decide +kernel
theorem dMod_sendData_158 : decode uMod_sendData.2.1 158 = .ok (.bipush 32, 2) := by decide +kernel
theorem dMod_sendData_160 : decode uMod_sendData.2.1 160 = .ok (.iload_n 3, 1) := by decide +kernel
theorem dMod_sendData_161 : decode uMod_sendData.2.1 161 = .ok (.imul, 1) := by decide +kernel
theorem dMod_sendData_162 : decode uMod_sendData.2.1 162 = .ok (.iload 7, 2) := by decide +kernel
theorem dMod_sendData_164 : decode uMod_sendData.2.1 164 = .ok (.iadd, 1) := by decide +kernel
theorem dMod_sendData_165 : decode uMod_sendData.2.1 165 = .ok (.iaload, 1) := by decide +kernel
theorem dMod_sendData_166 : decode uMod_sendData.2.1 166 = .ok (.i2l, 1) := by decide +kernel
theorem dMod_sendData_167 : decode uMod_sendData.2.1 167 = .ok (.bipush 8, 2) := by decide +kernel
theorem dMod_sendData_169 : decode uMod_sendData.2.1 169 = .ok (.iload 7, 2) := by decide +kernel
theorem dMod_sendData_171 : decode uMod_sendData.2.1 171 = .ok (.imul, 1) := by decide +kernel
theorem dMod_sendData_172 : decode uMod_sendData.2.1 172 = .ok (.lshl, 1) := by decide +kernel
theorem dMod_sendData_173 : decode uMod_sendData.2.1 173 = .ok (.lor, 1) := by decide +kernel
theorem dMod_sendData_174 : decode uMod_sendData.2.1 174 = .ok (.lastore, 1) := by decide +kernel
theorem dMod_sendData_175 : decode uMod_sendData.2.1 175 = .ok (.iinc 7 1, 3) := by decide +kernel
theorem dMod_sendData_178 : decode uMod_sendData.2.1 178 = .ok (.goto (-44), 3) := by decide +kernel
theorem dMod_sendData_181 : decode uMod_sendData.2.1 181 = .ok (.aload_n 0, 1) := by decide +kernel
theorem dMod_sendData_182 : decode uMod_sendData.2.1 182 = .ok (.getfield 93, 3) := by decide +kernel
theorem dMod_sendData_185 : decode uMod_sendData.2.1 185 = .ok (.iload_n 3, 1) := by decide +kernel
theorem dMod_sendData_186 : decode uMod_sendData.2.1 186 = .ok (.aload_n 0, 1) := by decide +kernel
theorem dMod_sendData_187 : decode uMod_sendData.2.1 187 = .ok (.getfield 93, 3) := by decide +kernel
theorem dMod_sendData_190 : decode uMod_sendData.2.1 190 = .ok (.iload_n 3, 1) := by decide +kernel
theorem dMod_sendData_191 : decode uMod_sendData.2.1 191 = .ok (.iaload, 1) := by decide +kernel
theorem dMod_sendData_192 : decode uMod_sendData.2.1 192 = .ok (.iload 4, 2) := by decide +kernel
theorem dMod_sendData_194 : decode uMod_sendData.2.1 194 = .ok (.isub, 1) := by decide +kernel
theorem dMod_sendData_195 : decode uMod_sendData.2.1 195 = .ok (.iastore, 1) := by decide +kernel
theorem dMod_sendData_196 : decode uMod_sendData.2.1 196 = .ok (.iconst 0, 1) := by decide +kernel
theorem dMod_sendData_197 : decode uMod_sendData.2.1 197 = .ok (.istore 7, 2) := by decide +kernel
theorem dMod_sendData_199 : decode uMod_sendData.2.1 199 = .ok (.iload 7, 2) := by decide +kernel
theorem dMod_sendData_201 : decode uMod_sendData.2.1 201 = .ok (.aload_n 0, 1) := by decide +kernel
theorem dMod_sendData_202 : decode uMod_sendData.2.1 202 = .ok (.getfield 93, 3) := by decide +kernel
theorem dMod_sendData_205 : decode uMod_sendData.2.1 205 = .ok (.iload_n 3, 1) := by decide +kernel
theorem dMod_sendData_206 : decode uMod_sendData.2.1 206 = .ok (.iaload, 1) := by decide +kernel
theorem dMod_sendData_207 : decode uMod_sendData.2.1 207 = .ok (.if_icmp .ge 36, 3) := by decide +kernel
theorem dMod_sendData_210 : decode uMod_sendData.2.1 210 = .ok (.aload_n 0, 1) := by decide +kernel
theorem dMod_sendData_211 : decode uMod_sendData.2.1 211 = .ok (.getfield 96, 3) := by decide +kernel
theorem dMod_sendData_214 : decode uMod_sendData.2.1 214 = .ok (.bipush 32, 2) := by decide +kernel
theorem dMod_sendData_216 : decode uMod_sendData.2.1 216 = .ok (.iload_n 3, 1) := by decide +kernel
theorem dMod_sendData_217 : decode uMod_sendData.2.1 217 = .ok (.imul, 1) := by decide +kernel
theorem dMod_sendData_218 : decode uMod_sendData.2.1 218 = .ok (.iload 7, 2) := by decide +kernel
theorem dMod_sendData_220 : decode uMod_sendData.2.1 220 = .ok (.iadd, 1) := by decide +kernel
theorem dMod_sendData_221 : decode uMod_sendData.2.1 221 = .ok (.aload_n 0, 1) := by decide +kernel
theorem dMod_sendData_222 : decode uMod_sendData.2.1 222 = .ok (.getfield 96, 3) := by decide +kernel
theorem dMod_sendData_225 : decode uMod_sendData.2.1 225 = .ok (.bipush 32, 2) := by decide +kernel
theorem dMod_sendData_227 : decode uMod_sendData.2.1 227 = .ok (.iload_n 3, 1) := by decide +kernel
theorem dMod_sendData_228 : decode uMod_sendData.2.1 228 = .ok (.imul, 1) := by decide +kernel
theorem dMod_sendData_229 : decode uMod_sendData.2.1 229 = .ok (.iload 7, 2) := by decide +kernel
theorem dMod_sendData_231 : decode uMod_sendData.2.1 231 = .ok (.iadd, 1) := by decide +kernel
theorem dMod_sendData_232 : decode uMod_sendData.2.1 232 = .ok (.iload 4, 2) := by decide +kernel
theorem dMod_sendData_234 : decode uMod_sendData.2.1 234 = .ok (.iadd, 1) := by decide +kernel
theorem dMod_sendData_235 : decode uMod_sendData.2.1 235 = .ok (.iaload, 1) := by decide +kernel
theorem dMod_sendData_236 : decode uMod_sendData.2.1 236 = .ok (.iastore, 1) := by decide +kernel
theorem dMod_sendData_237 : decode uMod_sendData.2.1 237 = .ok (.iinc 7 1, 3) := by decide +kernel
theorem dMod_sendData_240 : decode uMod_sendData.2.1 240 = .ok (.goto (-41), 3) := by decide +kernel
theorem dMod_sendData_243 : decode uMod_sendData.2.1 243 = .ok (.aload_n 0, 1) := by decide +kernel
theorem dMod_sendData_244 : decode uMod_sendData.2.1 244 = .ok (.getfield 72, 3) := by decide +kernel
theorem dMod_sendData_247 : decode uMod_sendData.2.1 247 = .ok (.iload_n 3, 1) := by decide +kernel
theorem dMod_sendData_248 : decode uMod_sendData.2.1 248 = .ok (.aload_n 0, 1) := by decide +kernel
theorem dMod_sendData_249 : decode uMod_sendData.2.1 249 = .ok (.getfield 72, 3) := by decide +kernel
theorem dMod_sendData_252 : decode uMod_sendData.2.1 252 = .ok (.iload_n 3, 1) := by decide +kernel
theorem dMod_sendData_253 : decode uMod_sendData.2.1 253 = .ok (.iaload, 1) := by decide +kernel
theorem dMod_sendData_254 : decode uMod_sendData.2.1 254 = .ok (.iload 4, 2) := by decide +kernel
theorem dMod_sendData_256 : decode uMod_sendData.2.1 256 = .ok (.iadd, 1) := by decide +kernel
theorem dMod_sendData_257 : decode uMod_sendData.2.1 257 = .ok (.iastore, 1) := by decide +kernel
theorem dMod_sendData_258 : decode uMod_sendData.2.1 258 = .ok (.aload_n 0, 1) := by decide +kernel
theorem dMod_sendData_259 : decode uMod_sendData.2.1 259 = .ok (.getfield 108, 3) := by decide +kernel
theorem dMod_sendData_262 : decode uMod_sendData.2.1 262 = .ok (.iload_n 1, 1) := by decide +kernel
theorem dMod_sendData_263 : decode uMod_sendData.2.1 263 = .ok (.aload_n 0, 1) := by decide +kernel
theorem dMod_sendData_264 : decode uMod_sendData.2.1 264 = .ok (.getfield 108, 3) := by decide +kernel
theorem dMod_sendData_267 : decode uMod_sendData.2.1 267 = .ok (.iload_n 1, 1) := by decide +kernel
theorem dMod_sendData_268 : decode uMod_sendData.2.1 268 = .ok (.iaload, 1) := by decide +kernel
theorem dMod_sendData_269 : decode uMod_sendData.2.1 269 = .ok (.iload 4, 2) := by decide +kernel
theorem dMod_sendData_271 : decode uMod_sendData.2.1 271 = .ok (.iadd, 1) := by decide +kernel
theorem dMod_sendData_272 : decode uMod_sendData.2.1 272 = .ok (.iastore, 1) := by decide +kernel
theorem dMod_sendData_273 : decode uMod_sendData.2.1 273 = .ok (.aload_n 0, 1) := by decide +kernel
theorem dMod_sendData_274 : decode uMod_sendData.2.1 274 = .ok (.getfield 57, 3) := by decide +kernel
theorem dMod_sendData_277 : decode uMod_sendData.2.1 277 = .ok (.iload_n 3, 1) := by decide +kernel
theorem dMod_sendData_278 : decode uMod_sendData.2.1 278 = .ok (.iload 5, 2) := by decide +kernel
theorem dMod_sendData_280 : decode uMod_sendData.2.1 280 = .ok (.bastore, 1) := by decide +kernel
theorem dMod_sendData_281 : decode uMod_sendData.2.1 281 = .ok (.aload_n 0, 1) := by decide +kernel
theorem dMod_sendData_282 : decode uMod_sendData.2.1 282 = .ok (.getfield 114, 3) := by decide +kernel
theorem dMod_sendData_285 : decode uMod_sendData.2.1 285 = .ok (.iload_n 1, 1) := by decide +kernel
theorem dMod_sendData_286 : decode uMod_sendData.2.1 286 = .ok (.iload_n 2, 1) := by decide +kernel
theorem dMod_sendData_287 : decode uMod_sendData.2.1 287 = .ok (.iastore, 1) := by decide +kernel
theorem dMod_sendData_288 : decode uMod_sendData.2.1 288 = .ok (.return_, 1) := by decide +kernel
/-! ===== the reference over the state: data that is sent ===== -/
section SDN
set_option maxRecDepth 10000
def sdB (len : Nat) (sw : Int32) : Nat := if len = 0 then 0 else min (min len 8) sw.toNatClampNeg
def sdN (len : Nat) (sw lw : Int32) : Nat := if len = 0 then 0 else min (min (min len 8) sw.toNatClampNeg) lw.toNatClampNeg
theorem pos_nn {s : Int32} (h : 0 < s) : ¬ s < 0 := fun q => by rw [Int32.lt_iff_toInt_lt] at h q; omega
theorem pos_1 {s : Int32} (h : 0 < s) : 1 ≤ s.toNatClampNeg := by
  apply Nat.pos_of_ne_zero
  intro q
  have e := nI_cl (pos_nn h)
  rw [q] at e
  rw [← e] at h
  exact absurd h (by decide)
theorem le_cl {a : Nat} {s : Int32} (ha : a < 2 ^ 31) (h : 0 < s) : nI a ≤ s ↔ a ≤ s.toNatClampNeg := by
  have := nI_leI (a := a) (b := s.toNatClampNeg) ha s.toNatClampNeg_lt
  rw [nI_cl (pos_nn h)] at this
  exact this
theorem sdB_1 {len : Nat} {sw : Int32} (h : min len 8 ≤ 0) : nI (min len 8) = nI (sdB len sw) := by
  have : len = 0 := by omega
  subst this
  rfl
theorem sdB_2 {len : Nat} {sw : Int32} (h : ¬ min len 8 ≤ 0) (hp : 0 < sw) (h2 : nI (min len 8) ≤ sw) : nI (min len 8) = nI (sdB len sw) := by
  have h3 := (le_cl (Nat.lt_of_le_of_lt (Nat.min_le_right len 8) (by decide)) hp).mp h2
  have hl : ¬ len = 0 := by omega
  have hb : sdB len sw = min len 8 := by
    unfold sdB
    rw [if_neg hl]
    exact Nat.min_eq_left h3
  exact congrArg nI hb.symm
theorem sdB_3 {len : Nat} {sw : Int32} (h : ¬ min len 8 ≤ 0) (hp : 0 < sw) (h2 : ¬ nI (min len 8) ≤ sw) : sw = nI (sdB len sw) := by
  unfold sdB
  have h3 : ¬ min len 8 ≤ sw.toNatClampNeg := fun q => h2 ((le_cl (by omega) hp).mpr q)
  rw [if_neg (by omega), Nat.min_eq_right (by omega), nI_cl (pos_nn hp)]
theorem sdB_8 (len : Nat) (sw : Int32) : sdB len sw ≤ 8 := by
  unfold sdB
  split
  · omega
  · omega
theorem sdN_1 {len : Nat} {sw lw : Int32} (hp : ¬ len = 0 → 0 < sw) (h : sdB len sw ≤ 0) : nI (sdB len sw) = nI (sdN len sw lw) := by
  by_cases q : len = 0
  · unfold sdB sdN
    rw [if_pos q, if_pos q]
  · have := pos_1 (hp q)
    unfold sdB at h
    rw [if_neg q] at h
    exfalso
    omega
theorem sdN_2 {len : Nat} {sw lw : Int32} (h : ¬ sdB len sw ≤ 0) (hp : 0 < lw) (h2 : nI (sdB len sw) ≤ lw) : nI (sdB len sw) = nI (sdN len sw lw) := by
  have h8 := sdB_8 len sw
  have h3 := (le_cl (by omega) hp).mp h2
  unfold sdB sdN at *
  by_cases q : len = 0
  · rw [if_pos q] at h
    omega
  · rw [if_neg q] at h h3 ⊢
    rw [if_neg q, Nat.min_eq_left h3]
theorem sdN_3 {len : Nat} {sw lw : Int32} (h : ¬ sdB len sw ≤ 0) (hp : 0 < lw) (h2 : ¬ nI (sdB len sw) ≤ lw) : lw = nI (sdN len sw lw) := by
  have h8 := sdB_8 len sw
  have h3 : ¬ sdB len sw ≤ lw.toNatClampNeg := fun q => h2 ((le_cl (by omega) hp).mpr q)
  have : sdN len sw lw = lw.toNatClampNeg := by
    unfold sdB sdN at *
    by_cases q : len = 0
    · rw [if_pos q] at h
      omega
    · rw [if_neg q] at h3 ⊢
      omega
  rw [this, nI_cl (pos_nn hp)]
theorem sdN_tk {len : Nat} {sw lw : Int32} (hp : ¬ len = 0 → 0 < sw ∧ 0 < lw) : tkn (if (if lw < sw then lw else sw) < 8 then (if lw < sw then lw else sw) else 8) len = sdN len sw lw := by
  unfold tkn sdN
  by_cases q : len = 0
  · rw [if_pos q, q]
    omega
  · rw [if_neg q]
    obtain ⟨h1, h2⟩ := hp q
    have e1 := nI_cl (pos_nn h1)
    have e2 := nI_cl (pos_nn h2)
    have b1 := sw.toNatClampNeg_lt
    have b2 := lw.toNatClampNeg_lt
    generalize sw.toNatClampNeg = s at *
    generalize lw.toNatClampNeg = w at *
    subst e1 e2
    have k1 : (if nI w < nI s then nI w else nI s) = nI (min s w) := by
      by_cases z : w < s
      · rw [if_pos ((nI_ltI b2 b1).mpr z), Nat.min_eq_right (by omega)]
      · rw [if_neg (fun y => z ((nI_ltI b2 b1).mp y)), Nat.min_eq_left (by omega)]
    rw [k1]
    have k2 : (if nI (min s w) < 8 then nI (min s w) else 8) = nI (min (min s w) 8) := by
      have hb : min s w < 2 ^ 31 := Nat.lt_of_le_of_lt (Nat.min_le_left s w) b1
      by_cases z : min s w < 8
      · have z2 : nI (min s w) < 8 := (nI_ltI (a := min s w) (b := 8) hb (by decide)).mpr z
        rw [if_pos z2, Nat.min_eq_left (a := min s w) (b := 8) (Nat.le_of_lt z)]
      · have z2 : ¬ nI (min s w) < 8 := fun y => z ((nI_ltI (a := min s w) (b := 8) hb (by decide)).mp y)
        rw [if_neg z2, Nat.min_eq_right (a := min s w) (b := 8) (by omega)]
        rfl
    rw [k2, nI_clamp (by omega)]
    omega
theorem sdN_le (len : Nat) (sw lw : Int32) : sdN len sw lw ≤ len ∧ sdN len sw lw ≤ 8 := by
  unfold sdN
  split
  · omega
  · omega
end SDN
theorem ct_pushL {X : mX} {l : Launch} {M : mM} {A : zA} {e : Nat} {kd s a f : Int32} (h : RR M A) (he : e < 2) (hl : (zP A e).length < 47) (hf : f = 0 ∨ f = 1) (B : List Int32) (h0 : kd = 0 → a = nI B.length ∧ ∀ x, x ∈ B → x = 0) (h1 : kd = 1 → a = 0) : Ct X l uMod_push (rk 0 0) [.ref 169, .int (nI e), .int kd, .int s, .int a, .int f] M (fun r M' => ∃ sl, sl < 96 ∧ r = some (.int (nI sl)) ∧ lastS M' e (zP A e).length sl ∧ RR M' (push A e (kd, s, a, f, 0, B, [])) ∧ Chg M M' mP no2 ∧ Rloads M' sl = 0) := by
  obtain ⟨x, x1, x2, x3, x4, x5⟩ := h.2.2.2.2.1 e he
  have hN := h.1.1
  refine (ct_Mod_push h.1 he x3 x4 x1 x2 hf).post ?_
  rintro r M' ⟨rfl, rfl⟩
  have hlt := Nat.mod_lt (x + (zP A e).length) (by decide : 0 < 48)
  generalize hsl : 48 * e + (x + (zP A e).length) % 48 = sl at *
  have c : Chg M (pushM M e x (zP A e).length kd s a f) (fun a j => (171 ≤ a ∧ a ≤ 172 ∧ j = e) ∨ (173 ≤ a ∧ a ≤ 178 ∧ j = sl)) no2 := by
    unfold pushM
    rw [hsl]
    exact ((((((Chg.rf.setI (Or.inl (by omega))).setI (Or.inl (by omega))).setI (Or.inl (by omega))).setI (Or.inl (by omega))).setI (Or.inl (by omega))).setL (Or.inl (by omega))).setI (Or.inl (by omega))
  have hpm : pushM M e x (zP A e).length kd s a f = setI (setL (setI (setI (setI (setI (setI M 173 sl kd) 174 sl s) 175 sl a) 176 sl f) 177 sl 0) 178 sl 0) 172 e (nI ((zP A e).length + 1)) := by
    unfold pushM
    rw [hsl]
  have hIL : ∀ {N : mM} {b j i : Nat} {v : Int64}, mI (setL N 178 j v) b i = mI N b i := rfl
  have e1 : Rhead (pushM M e x (zP A e).length kd s a f) e = nI x := by
    rw [hpm]
    show mI _ 171 e = _
    rw [sI_a (by decide), hIL, sI_a (by decide), sI_a (by decide), sI_a (by decide), sI_a (by decide), sI_a (by decide)]
    exact x3
  refine ⟨sl, by omega, rfl, ⟨x, x1, e1, hsl.symm⟩, h.yP he ?_ (c.mono (fun a j q => by omega) fun _ _ q => q), mp c fun a j q => by omega, by rw [hpm]; exact (up2_same : up2 (mL M) 178 sl 0 178 sl = 0)⟩
  refine ⟨x, x1, by rw [List.length_append]; exact Nat.succ_lt_succ hl, e1, ?_, fun j g hg => ?_⟩
  · rw [hpm, List.length_append]
    exact sI_s
  · by_cases hj : j < (zP A e).length
    · rw [List.getElem?_append_left hj] at hg
      exact (x5 j g hg).mv c hN fun a i q => by omega
    · rw [List.getElem?_append_right (by omega)] at hg
      have h6 := (List.getElem?_eq_some_iff.mp hg).1
      have hj2 : j = (zP A e).length := by simp at h6; omega
      subst hj2
      simp at hg
      subst hg
      rw [hsl]
      have r0 : Rkinds (pushM M e x (zP A e).length kd s a f) sl = kd := by
        rw [hpm]
        show mI _ 173 sl = _
        rw [sI_a (by decide), hIL, sI_a (by decide), sI_a (by decide), sI_a (by decide), sI_a (by decide), sI_s]
      have r1 : Rstreams (pushM M e x (zP A e).length kd s a f) sl = s := by
        rw [hpm]
        show mI _ 174 sl = _
        rw [sI_a (by decide), hIL, sI_a (by decide), sI_a (by decide), sI_a (by decide), sI_s]
      have r2 : Ramounts (pushM M e x (zP A e).length kd s a f) sl = a := by
        rw [hpm]
        show mI _ 175 sl = _
        rw [sI_a (by decide), hIL, sI_a (by decide), sI_a (by decide), sI_s]
      have r3 : Rflags (pushM M e x (zP A e).length kd s a f) sl = f := by
        rw [hpm]
        show mI _ 176 sl = _
        rw [sI_a (by decide), hIL, sI_a (by decide), sI_s]
      have r4 : Rsettings (pushM M e x (zP A e).length kd s a f) sl = 0 := by
        rw [hpm]
        show mI _ 177 sl = _
        rw [sI_a (by decide), hIL, sI_s]
      have r5 : Rloads (pushM M e x (zP A e).length kd s a f) sl = 0 := by
        rw [hpm]
        exact (up2_same : up2 (mL M) 178 sl 0 178 sl = 0)
      refine ⟨r0, r1, r2, r3, fun _ => r4, fun q => ⟨r4, ?_, Nat.zero_le _, rfl, fun j s hs => by simp at hs⟩, fun q => ⟨(h0 q).1, fun j y hy => ?_⟩⟩
      · exact h1 q
      · rw [r5, by0]
        exact (h0 q).2 y (List.mem_of_getElem? hy)
section SDR
variable {M M' : mM} {A : zA} {e k : Nat}
theorem RR.sntS {x : Int32} (h : RR M A) (he : e < 2) (hk : k < 12) (hs : ¬ zI A (29 + 80 * e + 5 * k) 1 = 0) : RR (setI M 190 (12 * e + k) (Rsent M (12 * e + k) + x)) (yI A (29 + 80 * e + 5 * k) 3 (zI A (29 + 80 * e + 5 * k) 3 - x)) := by
  refine h.yS (f := up2 (zI A) (29 + 80 * e + 5 * k) 3 (zI A (29 + 80 * e + 5 * k) 3 - x)) he hk (fun a j q => up2_a q) (Chg.rf.setI (Or.inl ⟨by omega, by omega, by omega, rfl⟩)) ?_
  obtain ⟨g1, g2, g3, g4, g5⟩ := h.stk he hk
  have u : ∀ a j, a ≠ 190 → mI (setI M 190 (12 * e + k) (Rsent M (12 * e + k) + x)) a j = mI M a j := fun a j q => up2_a q
  have w : ∀ j, j ≠ 3 → up2 (zI A) (29 + 80 * e + 5 * k) 3 (zI A (29 + 80 * e + 5 * k) 3 - x) (29 + 80 * e + 5 * k) j = zI A (29 + 80 * e + 5 * k) j := fun j q => up2_k q
  unfold StR
  show stR (up2 _ _ _ _ _ 1) (up2 _ _ _ _ _ 2) (mI (setI M _ _ _) 183 _) (mI (setI M _ _ _) 184 _) (mI (setI M _ _ _) 185 _) (mI (setI M _ _ _) 186 _) ∧ (up2 _ _ _ _ _ 1 = 0 → _) ∧ (up2 _ _ _ _ _ 1 = 1 ∨ up2 _ _ _ _ _ 1 = 2 ∨ up2 _ _ _ _ _ 1 = 3 → mI (setI M _ _ _) 206 _ + mI (setI M _ _ _) 191 _ - mI (setI M _ _ _) 190 _ = up2 _ _ _ _ _ 3 ∧ mI (setI M _ _ _) 205 _ + mI (setI M _ _ _) 193 _ - mI (setI M _ _ _) 192 _ = up2 _ _ _ _ _ 4) ∧ (e = 1 → mI (setI M _ _ _) 188 _ = up2 _ _ _ _ _ 5) ∧ mI (setI M _ _ _) 189 _ = up2 _ _ _ _ _ 6
  rw [w 1 (by decide), w 2 (by decide), w 4 (by decide), w 5 (by decide), w 6 (by decide), u 183 _ (by decide), u 184 _ (by decide), u 185 _ (by decide), u 186 _ (by decide), u 206 _ (by decide), u 192 _ (by decide), u 205 _ (by decide), u 193 _ (by decide), u 191 _ (by decide), u 188 _ (by decide), u 189 _ (by decide), up2_same]
  refine ⟨g1, fun q => absurd q hs, fun q => ⟨?_, (g3 q).2⟩, g4, g5⟩
  rw [show mI (setI M 190 (12 * e + k) (Rsent M (12 * e + k) + x)) 190 (12 * e + k) = Rsent M (12 * e + k) + x from up2_same, sub_mid, ← (g3 q).1]
theorem RR.lsn {x : Int32} (h : RR M A) (he : e < 2) : RR (setI M 202 e (RlinkSent M e + x)) (yI A (9 + 80 * e) 4 (zI A (9 + 80 * e) 4 - x)) := by
  refine h.yE he (Or.inr (Or.inl rfl)) (Chg.rf.setI (Or.inl ⟨by omega, rfl⟩)) ⟨?_, ?_, ?_⟩
  · show mI (setI M 202 e _) 170 e = zI (yI A _ _ _) _ _
    rw [sI_a (by decide), zI_k (by decide)]
    exact h.dn he
  · show 40 + mI (setI M 202 e _) 203 e - mI (setI M 202 e _) 202 e = zI (yI A _ _ _) _ _
    rw [sI_s, sI_a (by decide), zI_s, sub_mid, ← h.ls he]
  · show mI (setI M 202 e _) 204 e = zI (yI A _ _ _) _ _
    rw [sI_a (by decide), zI_k (by decide)]
    exact h.ld he
theorem RR.ldS {x : Int32} (h : RR M A) (he : e < 2) : RR (setI M 204 e x) (yI A (9 + 80 * e) 16 x) := by
  refine h.yE he (Or.inr (Or.inr rfl)) (Chg.rf.setI (Or.inl ⟨by omega, rfl⟩)) ⟨?_, ?_, ?_⟩
  · show mI (setI M 204 e _) 170 e = zI (yI A _ _ _) _ _
    rw [sI_a (by decide), zI_k (by decide)]
    exact h.dn he
  · show 40 + mI (setI M 204 e _) 203 e - mI (setI M 204 e _) 202 e = zI (yI A _ _ _) _ _
    rw [sI_a (by decide), sI_a (by decide), zI_k (by decide)]
    exact h.ls he
  · show mI (setI M 204 e _) 204 e = zI (yI A _ _ _) _ _
    rw [sI_s, zI_s]
end SDR
/-- the loop that puts the bytes of a frame together -/
def ldI (M M1 : mM) (sl b : Nat) (W : List Int32) : Prop := Chg M M1 (fun a j => a = 178 ∧ j = sl) no2 ∧ Rloads M1 sl = tkP (W.take b) 0 0
theorem ldI_st {M M1 : mM} {i sl b : Nat} {W : List Int32} (h : ldI M M1 sl b W) (hN : 223 ≤ mN M) (hw : WtR M i W) (hb : b < W.length) (h8 : b < 8) : ldI M (setL M1 178 sl (mL M1 178 sl ||| ((mI M1 198 (32 * i + b)).toInt64 <<< ((nI (8 * b)).toInt64 &&& 63)))) sl (b + 1) W := by
  refine ⟨h.1.setL (Or.inl ⟨rfl, rfl⟩), ?_⟩
  have hx : W[b]? = some W[b] := List.getElem?_eq_getElem hb
  have e1 : mI M1 198 (32 * i + b) = W[b] := (h.1.2.2.1 198 _ (by omega) (fun q => absurd q.1 (by decide))).trans (hw.2.2 b _ hx)
  rw [List.take_succ, hx]
  show up2 (mL M1) 178 sl _ 178 sl = tkP (W.take b ++ [W[b]]) 0 0
  rw [up2_same, tkP_app, List.length_take, Nat.min_eq_left (by omega), Nat.zero_add, ← h.2, e1]
  unfold tk1
  rw [if_neg (by omega)]
/-- the loop that moves the bytes that wait -/
def shW (M M1 : mM) (i b N R : Nat) : Prop := Chg M M1 (fun a j => a = 198 ∧ 32 * i ≤ j ∧ j < 32 * i + 32) no2 ∧ ∀ j, j < R + N → mI M1 198 (32 * i + j) = if j < b then mI M 198 (32 * i + (j + N)) else mI M 198 (32 * i + j)
theorem shW_st {M M1 : mM} {i b N R : Nat} (h : shW M M1 i b N R) (hb : b < R) (h32 : R + N ≤ 32) : shW M (setI M1 198 (32 * i + b) (mI M1 198 (32 * i + b + N))) i (b + 1) N R := by
  refine ⟨h.1.setI (Or.inl ⟨rfl, by omega, by omega⟩), fun j hj => ?_⟩
  by_cases q : j = b
  · subst q
    rw [sI_s, if_pos (by omega), show 32 * i + j + N = 32 * i + (j + N) by omega, h.2 (j + N) (by omega)]
    by_cases w : j + N < j
    · omega
    · rw [if_neg w]
  · rw [sI_k (by omega), h.2 j hj]
    by_cases w : j < b
    · rw [if_pos w, if_pos (by omega)]
    · rw [if_neg w, if_neg (by omega)]
set_option maxRecDepth 100000 in
set_option maxHeartbeats 4000000 in
theorem g_sdL {X : mX} {l : Launch} {M : mM} {e k N sl : Nat} {W : List Int32} {z : Int32} {Q : Option Value → mM → Prop} (hSM : Shp M) (he : e < 2) (hk : k < 12) (hsl : sl < 96) (hN : N ≤ 8) (hl : N ≤ W.length) (hw : WtR M (12 * e + k) W) (hq : ∀ M', ldI M M' sl N W → G X l uMod_sendData (rk 1 26) 0 0 M' 181 [some (.ref 169), some (.int (nI e)), some (.int (nI k)), some (.int (nI (12 * e + k))), some (.int (nI N)), some (.int z), some (.int (nI sl)), some (.int (nI N))] [] Q) : ∀ (j b : Nat), b + j = N → ∀ M1, ldI M M1 sl b W → G X l uMod_sendData (rk 1 26) 0 0 M1 134 [some (.ref 169), some (.int (nI e)), some (.int (nI k)), some (.int (nI (12 * e + k))), some (.int (nI N)), some (.int z), some (.int (nI sl)), some (.int (nI b))] [] Q
  | 0, b, hn, M1, hI => by
    have hn : b = N := by omega
    subst hn
    refine g_iload 134 dMod_sendData_134 rfl ?_
    refine g_iload 136 dMod_sendData_136 rfl ?_
    refine g_icmp_geN 138 181 dMod_sendData_138 rfl (by omega) (by omega) (fun h138 => ?_) (fun h138 => ?_)
    · exact hq M1 hI
    · exact absurd (Nat.le_refl _) h138
  | j + 1, b, hn, M1, hI => by
    have hS := hSM.mv hI.1 (fun _ _ q => q.elim)
    have ih := g_sdL (X := X) (l := l) (z := z) hSM he hk hsl hN hl hw hq j (b + 1) (by omega)
    refine g_iload 134 dMod_sendData_134 rfl ?_
    refine g_iload 136 dMod_sendData_136 rfl ?_
    refine g_icmp_geN 138 181 dMod_sendData_138 rfl (by omega) (by omega) (fun h138 => ?_) (fun h138 => ?_)
    · exact absurd h138 (by omega)
    · refine g_aload_n 141 dMod_sendData_141 rfl ?_
      refine g_getr 142 10 8 dMod_sendData_142 fs_Mod_35 rfl hS.mod hS.R_loads ?_
      refine g_iload 145 dMod_sendData_145 rfl ?_
      refine g_aload_n 147 dMod_sendData_147 rfl ?_
      refine g_getr 148 10 8 dMod_sendData_148 fs_Mod_35 rfl hS.mod hS.R_loads ?_
      refine g_iload 151 dMod_sendData_151 rfl ?_
      refine g_laldN 153 dMod_sendData_153 hS.T_loads (by omega) (by decide) ?_
      refine g_aload_n 154 dMod_sendData_154 rfl ?_
      refine g_getr 155 10 28 dMod_sendData_155 fs_Mod_96 rfl hS.mod hS.R_wait ?_
      refine g_bipush 158 (nI 32) dMod_sendData_158 rfl ?_
      refine g_iload_n 160 dMod_sendData_160 rfl ?_
      refine g_imulN 161 dMod_sendData_161 ?_
      refine g_iload 162 dMod_sendData_162 rfl ?_
      refine g_iaddN 164 dMod_sendData_164 ?_
      refine g_ialdN 165 dMod_sendData_165 hS.T_wait (by omega) (by decide) ?_
      refine g_i2l 166 dMod_sendData_166 ?_
      refine g_bipush 167 (nI 8) dMod_sendData_167 rfl ?_
      refine g_iload 169 dMod_sendData_169 rfl ?_
      refine g_imulN 171 dMod_sendData_171 ?_
      refine g_lshl 172 dMod_sendData_172 ?_
      refine g_lor 173 dMod_sendData_173 ?_
      refine g_lastN 174 dMod_sendData_174 hS.T_loads (by omega) (by decide) ?_
      refine g_iincN 175 dMod_sendData_175 rfl (by decide) rfl ?_
      refine g_goto 178 134 dMod_sendData_178 rfl ?_
      exact ih _ (ldI_st hI hSM.1 hw (by omega) (by omega))
set_option maxRecDepth 100000 in
set_option maxHeartbeats 4000000 in
theorem g_sdS {X : mX} {l : Launch} {M : mM} {e k N R sl : Nat} {z : Int32} {Q : Option Value → mM → Prop} (hSM : Shp M) (he : e < 2) (hk : k < 12) (hR32 : R + N ≤ 32) (hw : Rwaits M (12 * e + k) = nI R) (hq : ∀ M' b, shW M M' (12 * e + k) R N R → G X l uMod_sendData (rk 1 26) 0 0 M' 243 [some (.ref 169), some (.int (nI e)), some (.int (nI k)), some (.int (nI (12 * e + k))), some (.int (nI N)), some (.int z), some (.int (nI sl)), some (.int (nI b))] [] Q) : ∀ (j b : Nat), b + j = R → ∀ M1, shW M M1 (12 * e + k) b N R → G X l uMod_sendData (rk 1 26) 0 0 M1 199 [some (.ref 169), some (.int (nI e)), some (.int (nI k)), some (.int (nI (12 * e + k))), some (.int (nI N)), some (.int z), some (.int (nI sl)), some (.int (nI b))] [] Q
  | 0, b, hn, M1, hI => by
    have hn : b = R := by omega
    subst hn
    have hS := hSM.mv hI.1 (fun _ _ q => q.elim)
    have hw1 : Rwaits M1 (12 * e + k) = nI b := (hI.1.2.2.1 197 _ (by have := hSM.1; omega) (fun q => absurd q.1 (by decide))).trans hw
    refine g_iload 199 dMod_sendData_199 rfl ?_
    refine g_aload_n 201 dMod_sendData_201 rfl ?_
    refine g_getr 202 10 27 dMod_sendData_202 fs_Mod_93 rfl hS.mod hS.R_waits ?_
    refine g_iload_n 205 dMod_sendData_205 rfl ?_
    refine g_ialdN 206 dMod_sendData_206 hS.T_waits (by omega) (by decide) ?_
    refine g_top (nI (b)) (hw1) ?_
    refine g_icmp_geN 207 243 dMod_sendData_207 rfl (by omega) (by omega) (fun h207 => ?_) (fun h207 => ?_)
    · exact hq M1 b hI
    · exact absurd (Nat.le_refl _) h207
  | j + 1, b, hn, M1, hI => by
    have hS := hSM.mv hI.1 (fun _ _ q => q.elim)
    have hw1 : Rwaits M1 (12 * e + k) = nI R := (hI.1.2.2.1 197 _ (by have := hSM.1; omega) (fun q => absurd q.1 (by decide))).trans hw
    have ih := g_sdS (X := X) (l := l) (z := z) hSM he hk hR32 hw hq j (b + 1) (by omega)
    refine g_iload 199 dMod_sendData_199 rfl ?_
    refine g_aload_n 201 dMod_sendData_201 rfl ?_
    refine g_getr 202 10 27 dMod_sendData_202 fs_Mod_93 rfl hS.mod hS.R_waits ?_
    refine g_iload_n 205 dMod_sendData_205 rfl ?_
    refine g_ialdN 206 dMod_sendData_206 hS.T_waits (by omega) (by decide) ?_
    refine g_top (nI (R)) (hw1) ?_
    refine g_icmp_geN 207 243 dMod_sendData_207 rfl (by omega) (by omega) (fun h207 => ?_) (fun h207 => ?_)
    · exact absurd h207 (by omega)
    · refine g_aload_n 210 dMod_sendData_210 rfl ?_
      refine g_getr 211 10 28 dMod_sendData_211 fs_Mod_96 rfl hS.mod hS.R_wait ?_
      refine g_bipush 214 (nI 32) dMod_sendData_214 rfl ?_
      refine g_iload_n 216 dMod_sendData_216 rfl ?_
      refine g_imulN 217 dMod_sendData_217 ?_
      refine g_iload 218 dMod_sendData_218 rfl ?_
      refine g_iaddN 220 dMod_sendData_220 ?_
      refine g_aload_n 221 dMod_sendData_221 rfl ?_
      refine g_getr 222 10 28 dMod_sendData_222 fs_Mod_96 rfl hS.mod hS.R_wait ?_
      refine g_bipush 225 (nI 32) dMod_sendData_225 rfl ?_
      refine g_iload_n 227 dMod_sendData_227 rfl ?_
      refine g_imulN 228 dMod_sendData_228 ?_
      refine g_iload 229 dMod_sendData_229 rfl ?_
      refine g_iaddN 231 dMod_sendData_231 ?_
      refine g_iload 232 dMod_sendData_232 rfl ?_
      refine g_iaddN 234 dMod_sendData_234 ?_
      refine g_ialdN 235 dMod_sendData_235 hS.T_wait (by omega) (by decide) ?_
      refine g_iastN 236 dMod_sendData_236 hS.T_wait (by omega) (by decide) ?_
      refine g_iincN 237 dMod_sendData_237 rfl (by decide) rfl ?_
      refine g_goto 240 199 dMod_sendData_240 rfl ?_
      exact ih _ (shW_st hI (by omega) hR32)
def sdZ (B : zA) (e k N : Nat) : zA := (yI (yI B (29 + 80 * e + 5 * k) 3 (zI B (29 + 80 * e + 5 * k) 3 - nI N)) (9 + 80 * e) 4 (zI (yI B (29 + 80 * e + 5 * k) 3 (zI B (29 + 80 * e + 5 * k) 3 - nI N)) (9 + 80 * e) 4 - nI N))
def sdY (B : zA) (e k N : Nat) (z : Int32) : zA := yI (if z = 0 then sdZ B e k N else endS (sdZ B e k N) e k) (9 + 80 * e) 16 (nI k)
set_option maxRecDepth 100000 in
set_option maxHeartbeats 4000000 in
theorem g_sdF {X : mX} {l : Launch} {M0 M : mM} {B : zA} {e k N sl b : Nat} {z : Int32} (hR : RR M B) (hC : Chg M0 M mP no2) (he : e < 2) (hk : k < 12) (hz : z = 0 ∨ z = 1) (hst : zI B (29 + 80 * e + 5 * k) 1 = 1 ∨ zI B (29 + 80 * e + 5 * k) 1 = 3) : G X l uMod_sendData (rk 1 26) 0 0 M 243 [some (.ref 169), some (.int (nI e)), some (.int (nI k)), some (.int (nI (12 * e + k))), some (.int (nI N)), some (.int z), some (.int (nI sl)), some (.int (nI b))] [] (fun r M' => r = none ∧ RR M' (sdY B e k N z) ∧ Chg M0 M' mP no2) := by
  have hs0 : ¬ zI B (29 + 80 * e + 5 * k) 1 = 0 := by rcases hst with q | q <;> rw [q] <;> decide
  have hg2 : zI (sdZ B e k N) (29 + 80 * e + 5 * k) 1 = 1 ∨ zI (sdZ B e k N) (29 + 80 * e + 5 * k) 1 = 3 := by
    unfold sdZ
    rw [zI_a (by omega), zI_k (by decide)]
    exact hst
  refine g_aload_n 243 dMod_sendData_243 rfl ?_
  refine g_getr 244 10 20 dMod_sendData_244 fs_Mod_72 rfl hR.1.mod hR.1.R_sent ?_
  refine g_iload_n 247 dMod_sendData_247 rfl ?_
  refine g_aload_n 248 dMod_sendData_248 rfl ?_
  refine g_getr 249 10 20 dMod_sendData_249 fs_Mod_72 rfl hR.1.mod hR.1.R_sent ?_
  refine g_iload_n 252 dMod_sendData_252 rfl ?_
  refine g_ialdN 253 dMod_sendData_253 hR.1.T_sent (by omega) (by decide) ?_
  refine g_iload 254 dMod_sendData_254 rfl ?_
  refine g_iadd 256 dMod_sendData_256 ?_
  refine g_iastN 257 dMod_sendData_257 hR.1.T_sent (by omega) (by decide) ?_
  refine g_memM (hR.sntS he hk hs0) (kM hC (by decide)) (fun M1 hR1 hC1 => ?_)
  refine g_aload_n 258 dMod_sendData_258 rfl ?_
  refine g_getr 259 10 32 dMod_sendData_259 fs_Mod_108 rfl hR1.1.mod hR1.1.R_linkSent ?_
  refine g_iload_n 262 dMod_sendData_262 rfl ?_
  refine g_aload_n 263 dMod_sendData_263 rfl ?_
  refine g_getr 264 10 32 dMod_sendData_264 fs_Mod_108 rfl hR1.1.mod hR1.1.R_linkSent ?_
  refine g_iload_n 267 dMod_sendData_267 rfl ?_
  refine g_ialdN 268 dMod_sendData_268 hR1.1.T_linkSent (by omega) (by decide) ?_
  refine g_iload 269 dMod_sendData_269 rfl ?_
  refine g_iadd 271 dMod_sendData_271 ?_
  refine g_iastN 272 dMod_sendData_272 hR1.1.T_linkSent (by omega) (by decide) ?_
  refine g_memM (hR1.lsn he) (kM hC1 (by decide)) (fun M2 hR2 hC2 => ?_)
  refine g_aload_n 273 dMod_sendData_273 rfl ?_
  refine g_getr 274 10 15 dMod_sendData_274 fs_Mod_57 rfl hR2.1.mod hR2.1.R_sentEnd ?_
  refine g_iload_n 277 dMod_sendData_277 rfl ?_
  refine g_iload 278 dMod_sendData_278 rfl ?_
  refine g_zastN 280 dMod_sendData_280 hR2.1.T_sentEnd (by omega) (by decide) hz ?_
  refine g_memM (hR2.eS he hk hg2 hz) (kM hC2 (by decide)) (fun M3 hR3 hC3 => ?_)
  refine g_aload_n 281 dMod_sendData_281 rfl ?_
  refine g_getr 282 10 34 dMod_sendData_282 fs_Mod_114 rfl hR3.1.mod hR3.1.R_lastData ?_
  refine g_iload_n 285 dMod_sendData_285 rfl ?_
  refine g_iload_n 286 dMod_sendData_286 rfl ?_
  refine g_iastN 287 dMod_sendData_287 hR3.1.T_lastData (by omega) (by decide) ?_
  refine g_memM (hR3.ldS he) (kM hC3 (by decide)) (fun M4 hR4 hC4 => ?_)
  exact g_vret 288 dMod_sendData_288 rfl ⟨rfl, hR4, hC4⟩
set_option maxRecDepth 100000 in
set_option maxHeartbeats 4000000 in
theorem g_sdP {X : mX} {l : Launch} {M : mM} {A : zA} {e k N : Nat} {z : Int32} (hR : RR M A) (he : e < 2) (hk : k < 12) (hz : z = 0 ∨ z = 1) (hN8 : N ≤ 8) (hNl : N ≤ (zW A e k).length) (hb : ∀ x, x ∈ zW A e k → bW x) (hp : (zP A (1 - e)).length ≤ 44) (hst : zI A (29 + 80 * e + 5 * k) 1 = 1 ∨ zI A (29 + 80 * e + 5 * k) 1 = 3) : G X l uMod_sendData (rk 1 26) 0 0 M 112 [some (.ref 169), some (.int (nI e)), some (.int (nI k)), some (.int (nI (12 * e + k))), some (.int (nI N)), some (.int z), none, none] [] (fun r M' => r = none ∧ RR M' (sdY (yW (push A (1 - e) (0, nI (2 * k + 1), nI N, z, 0, (zW A e k).take N, [])) e k ((zW A e k).drop N)) e k N z) ∧ Chg M M' mP no2) := by
  have hC : Chg M M mP no2 := Chg.rf
  have hw32 := (hR.wt he hk).2.1
  refine g_aload_n 112 dMod_sendData_112 rfl ?_
  refine g_iconst 113 (nI 1) dMod_sendData_113 rfl ?_
  refine g_iload_n 114 dMod_sendData_114 rfl ?_
  refine g_isubN 115 dMod_sendData_115 (by omega) ?_
  refine g_iconst 116 0 dMod_sendData_116 rfl ?_
  refine g_iconst 117 (nI 2) dMod_sendData_117 rfl ?_
  refine g_iload_n 118 dMod_sendData_118 rfl ?_
  refine g_imulN 119 dMod_sendData_119 ?_
  refine g_iconst 120 (nI 1) dMod_sendData_120 rfl ?_
  refine g_iaddN 121 dMod_sendData_121 ?_
  refine g_iload 122 dMod_sendData_122 rfl ?_
  refine g_iload 124 dMod_sendData_124 rfl ?_
  refine g_callV 126 [_, _, _, _, _] dMod_sendData_126 cs_Mod_182 rfl (ci := 10) rfl (by decide) hR.1.mod rfl ⟨(Nat.le_of_ble_eq_true rfl), (Nat.le_of_ble_eq_true rfl)⟩ (Nat.le_of_ble_eq_true rfl) (ct_pushL hR (by omega) (show (zP A (1 - e)).length < 47 by omega) hz (List.replicate N 0) (fun _ => ⟨by rw [List.length_replicate], fun x hx => (List.mem_replicate.mp hx).2⟩) (fun q => absurd q (by decide))) (Nat.le_of_ble_eq_true rfl) (Nat.le_of_ble_eq_true rfl) ?_
  rintro _ M1 ⟨sl, hsl, rfl, hla, hR1, hc, hld⟩
  have hC1 := hC.tr hc
  refine g_istore 129 dMod_sendData_129 (by decide) rfl ?_
  refine g_iconst 131 (nI 0) dMod_sendData_131 rfl ?_
  refine g_istore 132 dMod_sendData_132 (by decide) rfl ?_
  have hW1 := hR1.wt he hk
  refine g_sdL (N := N) (W := zW A e k) hR1.1 he hk hsl hN8 hNl hW1 (fun M2 hI => ?_) N 0 (Nat.zero_add _) M1 ⟨Chg.rf, hld⟩
  obtain ⟨q0, q1, q2, q3, q4, _, _⟩ := (hR1.lastF (by omega) hla).1
  have hN1 := hR1.1.1
  have u : ∀ a, a ≠ 178 → a < 223 → mI M2 a sl = mI M1 a sl := fun a p p2 => hI.1.2.2.1 a sl (by omega) (fun w => p w.1)
  have hF2 : FrR M2 sl (0, nI (2 * k + 1), nI N, z, 0, (zW A e k).take N, []) := ⟨(u 173 (by decide) (by decide)).trans q0, (u 174 (by decide) (by decide)).trans q1, (u 175 (by decide) (by decide)).trans q2, (u 176 (by decide) (by decide)).trans q3, fun w => (u 177 (by decide) (by decide)).trans (q4 (show ¬ (0 : Int32) = 1 by decide)), fun w => absurd w (show ¬ (0 : Int32) = 1 by decide), fun _ => ⟨by show nI N = nI (List.take N _).length; rw [List.length_take, Nat.min_eq_left hNl], fun j x hx => by
    rw [hI.2, tkP_0 (fun y hy => hb y (List.mem_of_mem_take hy)) (by rw [List.length_take]; omega)]
    exact (byR_pk _ j x (fun y hy => hb y (List.mem_of_mem_take hy)) (by rw [List.length_take]; omega) hx).symm⟩⟩
  have hR2 := rr_last hR1 (by omega) (L := zP A (1 - e)) upf_same hla (hI.1.mono (fun a j q => Or.inl ⟨by omega, by omega, q.2⟩) fun _ _ q => q) hF2
  rw [push_yP] at hR2
  have hC2 : Chg M M2 mP no2 := hC1.tr (mp hI.1 fun a j q => by omega)
  refine g_aload_n 181 dMod_sendData_181 rfl ?_
  refine g_getr 182 10 27 dMod_sendData_182 fs_Mod_93 rfl hR2.1.mod hR2.1.R_waits ?_
  refine g_iload_n 185 dMod_sendData_185 rfl ?_
  refine g_aload_n 186 dMod_sendData_186 rfl ?_
  refine g_getr 187 10 27 dMod_sendData_187 fs_Mod_93 rfl hR2.1.mod hR2.1.R_waits ?_
  refine g_iload_n 190 dMod_sendData_190 rfl ?_
  refine g_ialdN 191 dMod_sendData_191 hR2.1.T_waits (by omega) (by decide) ?_
  refine g_top (nI ((zW A e k).length)) ((hR2.wt he hk).1) ?_
  refine g_iload 192 dMod_sendData_192 rfl ?_
  refine g_isubN 194 dMod_sendData_194 (by omega) ?_
  refine g_iastN 195 dMod_sendData_195 hR2.1.T_waits (by omega) (by decide) ?_
  refine g_iconst 196 (nI 0) dMod_sendData_196 rfl ?_
  refine g_istore 197 dMod_sendData_197 (by decide) rfl ?_
  have hwc : Chg M2 (setI M2 197 (12 * e + k) (nI ((zW A e k).length - N))) (fun a j => a = 197 ∧ j = 12 * e + k) no2 := Chg.rf.setI (Or.inl ⟨rfl, rfl⟩)
  refine g_sdS (N := N) (R := (zW A e k).length - N) (hR2.1.mv hwc (fun _ _ q => q.elim)) he hk (by omega) sI_s (fun M3 b hJ => ?_) _ 0 (Nat.zero_add _) _ ⟨Chg.rf, fun j _ => by rw [if_neg (Nat.not_lt_zero _)]⟩
  have hc3 : Chg M2 M3 (fun a j => (a = 197 ∧ j = 12 * e + k) ∨ (a = 198 ∧ 32 * (12 * e + k) ≤ j ∧ j < 32 * (12 * e + k) + 32)) no2 := (hwc.mono (fun a j q => Or.inl q) fun _ _ q => q).tr (hJ.1.mono (fun a j q => Or.inr q) fun _ _ q => q)
  have hw2 := hR2.wt he hk
  have hN2 := hR2.1.1
  have hN3 : 223 ≤ mN (setI M2 197 (12 * e + k) (nI ((zW A e k).length - N))) := hN2
  have hR3 := hR2.yW he hk (L := (zW A e k).drop N) ⟨(hJ.1.2.2.1 197 _ (by omega) (fun q => absurd q.1 (by decide))).trans (by rw [List.length_drop]; exact sI_s), by rw [List.length_drop]; omega, fun j x hx => by
    have hj := (List.getElem?_eq_some_iff.mp hx).1
    rw [List.length_drop] at hj
    rw [List.getElem?_drop] at hx
    show mI M3 198 _ = _
    rw [hJ.2 j (by omega), if_pos hj, sI_a (by decide)]
    exact hw2.2.2 (j + N) x (by rw [show j + N = N + j by omega]; exact hx)⟩ hc3
  exact g_sdF hR3 (hC2.tr (mp hc3 fun a j q => by omega)) he hk hz hst

theorem up2_com {α : Type} {f : Nat → Nat → α} {a j b i : Nat} {v w : α} (h : ¬ (a = b ∧ j = i)) : up2 (up2 f a j v) b i w = up2 (up2 f b i w) a j v := by
  funext x y
  by_cases q : x = b ∧ y = i
  · obtain ⟨rfl, rfl⟩ := q
    rw [up2_same, up2_ne (fun w => h ⟨w.1.symm, w.2.symm⟩), up2_same]
  · rw [up2_ne q]
    by_cases q2 : x = a ∧ y = j
    · obtain ⟨rfl, rfl⟩ := q2
      rw [up2_same, up2_same]
    · rw [up2_ne q2, up2_ne q2, up2_ne q]
theorem yI_com {A : zA} {a j b i : Nat} {v w : Int32} (h : ¬ (a = b ∧ j = i)) : yI (yI A a j v) b i w = yI (yI A b i w) a j v := congrArg (fun f => yII A f) (up2_com (f := zI A) h)
theorem endS_16 {A : zA} {e k : Nat} {v : Int32} : endS (yI A (9 + 80 * e) 16 v) e k = yI (endS A e k) (9 + 80 * e) 16 v := by
  unfold endS
  rw [zI_a (by omega)]
  split
  · exact yI_com (by omega)
  · exact yI_com (by omega)
theorem sDt_n {A : zA} {e k : Nat} (hp : ¬ (zW A e k).length = 0 → 0 < zI A (29 + 80 * e + 5 * k) 3 ∧ 0 < zI A (9 + 80 * e) 4) : tkn (mostW A e k) (zW A e k).length = sdN (zW A e k).length (zI A (29 + 80 * e + 5 * k) 3) (zI A (9 + 80 * e) 4) := sdN_tk hp
theorem sd_eq {A : zA} {e k N : Nat} {z : Int32} (hN : N ≤ (zW A e k).length) (hn : tkn (mostW A e k) (zW A e k).length = N) (hz : z = if zI A (29 + 80 * e + 5 * k) 6 = 0 then 0 else if (zW A e k).length = N then 1 else 0) : sdY (yW (push A (1 - e) (0, nI (2 * k + 1), nI N, z, 0, (zW A e k).take N, [])) e k ((zW A e k).drop N)) e k N z = sDt (yI A (9 + 80 * e) 16 (nI k)) e k := by
  have hm : mostW (yI A (9 + 80 * e) 16 (nI k)) e k = mostW A e k := by
    unfold mostW
    rw [zI_k (by decide), zI_a (by omega)]
  have hpl : sDp (yI A (9 + 80 * e) 16 (nI k)) e k = (zW A e k).take N := by
    unfold sDp
    rw [hm]
    show (zW A e k).take (tkn (mostW A e k) (zW A e k).length) = _
    rw [hn]
  have hlen : ((zW A e k).take N).length = N := by rw [List.length_take, Nat.min_eq_left hN]
  have h3 : ∀ z, sD4 (yI A (9 + 80 * e) 16 (nI k)) e k z = yI (sdZ (yW (push A (1 - e) (0, nI (2 * k + 1), nI N, z, 0, (zW A e k).take N, [])) e k ((zW A e k).drop N)) e k N) (9 + 80 * e) 16 (nI k) := fun z => by
    have e1 : sD1 (yI A (9 + 80 * e) 16 (nI k)) e k = yI (yW A e k ((zW A e k).drop N)) (9 + 80 * e) 16 (nI k) := by
      unfold sD1
      rw [hm]
      show yW (yI A (9 + 80 * e) 16 (nI k)) e k ((zW A e k).drop (tkn (mostW A e k) (zW A e k).length)) = _
      rw [hn]
      rfl
    have e2 : ∀ (B : zA) (x y : Int32), yI (yI (yI B (9 + 80 * e) 16 (nI k)) (29 + 80 * e + 5 * k) 3 x) (9 + 80 * e) 4 y = yI (yI (yI B (29 + 80 * e + 5 * k) 3 x) (9 + 80 * e) 4 y) (9 + 80 * e) 16 (nI k) := fun B x y => by
      rw [yI_com (a := 9 + 80 * e) (j := 16) (b := 29 + 80 * e + 5 * k) (i := 3) (by omega), yI_com (a := 9 + 80 * e) (j := 16) (b := 9 + 80 * e) (i := 4) (by omega)]
    have e3 : ∀ (B : zA) (x : Int32), zI (yI (yI B (9 + 80 * e) 16 (nI k)) (29 + 80 * e + 5 * k) 3 x) (9 + 80 * e) 4 = zI (yI B (29 + 80 * e + 5 * k) 3 x) (9 + 80 * e) 4 := fun B x => by
      rw [zI_a (by omega), zI_k (by decide), zI_a (by omega)]
    unfold sD4 sD3 sD2
    rw [e1, hpl, hlen, zI_a (A := yW A e k ((zW A e k).drop N)) (by omega), e3, e2]
    rfl
  have hW : zW (sD3 (yI A (9 + 80 * e) 16 (nI k)) e k) e k = (zW A e k).drop N := by
    show up2 (zW A) e k ((zW A e k).drop (tkn (mostW (yI A (9 + 80 * e) 16 (nI k)) e k) (zW A e k).length)) e k = _
    rw [up2_same, hm, hn]
  have h6 : zI (sD3 (yI A (9 + 80 * e) 16 (nI k)) e k) (29 + 80 * e + 5 * k) 6 = zI A (29 + 80 * e + 5 * k) 6 := by
    unfold sD3 sD2
    rw [zI_a (by omega), zI_k (by decide)]
    exact zI_a (by omega)
  unfold sDt sdY
  rw [h6, hW, List.length_drop]
  by_cases q6 : zI A (29 + 80 * e + 5 * k) 6 = 0
  · rw [if_pos q6] at hz
    rw [if_pos q6, h3, hz, if_pos rfl]
  · rw [if_neg q6] at hz
    rw [if_neg q6]
    by_cases q7 : (zW A e k).length = N
    · rw [if_pos q7] at hz
      rw [if_pos (show (zW A e k).length - N = 0 by omega), h3, hz, if_neg (show ¬ (1 : Int32) = 0 by decide), endS_16]
    · rw [if_neg q7] at hz
      rw [if_neg (show ¬ (zW A e k).length - N = 0 by omega), h3, hz, if_pos rfl]
set_option maxRecDepth 100000 in
set_option maxHeartbeats 4000000 in
theorem g_sd3 {N : Nat} {X : mX} {l : Launch} {M : mM} {A : zA} {e k : Nat} (hR : RR M A) (he : e < 2) (hk : k < 12) (hb : ∀ x, x ∈ zW A e k → bW x) (hp : (zP A (1 - e)).length ≤ 44) (hst : zI A (29 + 80 * e + 5 * k) 1 = 1 ∨ zI A (29 + 80 * e + 5 * k) 1 = 3) (hpos : ¬ (zW A e k).length = 0 → 0 < zI A (29 + 80 * e + 5 * k) 3 ∧ 0 < zI A (9 + 80 * e) 4) (hN : N = sdN (zW A e k).length (zI A (29 + 80 * e + 5 * k) 3) (zI A (9 + 80 * e) 4)) : G X l uMod_sendData (rk 1 26) 0 0 M 85 [some (.ref 169), some (.int (nI e)), some (.int (nI k)), some (.int (nI (12 * e + k))), some (.int (nI N)), none, none, none] [] (fun r M' => r = none ∧ RR M' (sDt (yI A (9 + 80 * e) 16 (nI k)) e k) ∧ Chg M M' mP no2) := by
  have hC : Chg M M mP no2 := Chg.rf
  have hw32 := (hR.wt he hk).2.1
  have hs0 : ¬ zI A (29 + 80 * e + 5 * k) 1 = 0 := by rcases hst with q | q <;> rw [q] <;> decide
  have hs4 : ¬ zI A (29 + 80 * e + 5 * k) 1 = 4 := by rcases hst with q | q <;> rw [q] <;> decide
  have hnl := sdN_le (zW A e k).length (zI A (29 + 80 * e + 5 * k) 3) (zI A (9 + 80 * e) 4)
  rw [← hN] at hnl
  have hn := (sDt_n hpos).trans hN.symm
  refine g_aload_n 85 dMod_sendData_85 rfl ?_
  refine g_getr 86 10 19 dMod_sendData_86 fs_Mod_69 rfl hR.1.mod hR.1.R_lastSaid ?_
  refine g_iload_n 89 dMod_sendData_89 rfl ?_
  refine g_zaldN 90 dMod_sendData_90 hR.1.T_lastSaid (by omega) (by decide) ?_
  refine g_top (zI A (29 + 80 * e + 5 * k) 6) ((hR.stk he hk).2.2.2.2) ?_
  refine g_if_eq 91 109 dMod_sendData_91 rfl (fun h91 => ?_) (fun h91 => ?_)
  · refine g_iconst 109 0 dMod_sendData_109 rfl ?_
    refine g_istore 110 dMod_sendData_110 (by decide) rfl ?_
    first | (rw [← sd_eq (z := 0) hnl.1 hn (by first | rw [if_pos h91] | rw [if_neg h91, if_neg h102])]; exact g_sdP hR he hk (Or.inl rfl) hnl.2 hnl.1 hb hp hst) | (rw [← sd_eq (z := 1) hnl.1 hn (by rw [if_neg h91, if_pos h102])]; exact g_sdP hR he hk (Or.inr rfl) hnl.2 hnl.1 hb hp hst)
  · refine g_aload_n 94 dMod_sendData_94 rfl ?_
    refine g_getr 95 10 27 dMod_sendData_95 fs_Mod_93 rfl hR.1.mod hR.1.R_waits ?_
    refine g_iload_n 98 dMod_sendData_98 rfl ?_
    refine g_ialdN 99 dMod_sendData_99 hR.1.T_waits (by omega) (by decide) ?_
    refine g_top (nI ((zW A e k).length)) ((hR.wt he hk).1) ?_
    refine g_iload 100 dMod_sendData_100 rfl ?_
    refine g_icmp_neN 102 109 dMod_sendData_102 rfl (by omega) (by omega) (fun h102 => ?_) (fun h102 => ?_)
    · refine g_iconst 109 0 dMod_sendData_109 rfl ?_
      refine g_istore 110 dMod_sendData_110 (by decide) rfl ?_
      first | (rw [← sd_eq (z := 0) hnl.1 hn (by first | rw [if_pos h91] | rw [if_neg h91, if_neg h102])]; exact g_sdP hR he hk (Or.inl rfl) hnl.2 hnl.1 hb hp hst) | (rw [← sd_eq (z := 1) hnl.1 hn (by rw [if_neg h91, if_pos h102])]; exact g_sdP hR he hk (Or.inr rfl) hnl.2 hnl.1 hb hp hst)
    · refine g_iconst 105 1 dMod_sendData_105 rfl ?_
      refine g_goto 106 110 dMod_sendData_106 rfl ?_
      refine g_istore 110 dMod_sendData_110 (by decide) rfl ?_
      first | (rw [← sd_eq (z := 0) hnl.1 hn (by first | rw [if_pos h91] | rw [if_neg h91, if_neg h102])]; exact g_sdP hR he hk (Or.inl rfl) hnl.2 hnl.1 hb hp hst) | (rw [← sd_eq (z := 1) hnl.1 hn (by rw [if_neg h91, if_pos h102])]; exact g_sdP hR he hk (Or.inr rfl) hnl.2 hnl.1 hb hp hst)
set_option maxRecDepth 100000 in
set_option maxHeartbeats 4000000 in
theorem g_sd2 {X : mX} {l : Launch} {M : mM} {A : zA} {e k : Nat} (hR : RR M A) (he : e < 2) (hk : k < 12) (hb : ∀ x, x ∈ zW A e k → bW x) (hp : (zP A (1 - e)).length ≤ 44) (hst : zI A (29 + 80 * e + 5 * k) 1 = 1 ∨ zI A (29 + 80 * e + 5 * k) 1 = 3) (hpos : ¬ (zW A e k).length = 0 → 0 < zI A (29 + 80 * e + 5 * k) 3 ∧ 0 < zI A (9 + 80 * e) 4) : G X l uMod_sendData (rk 1 26) 0 0 M 58 [some (.ref 169), some (.int (nI e)), some (.int (nI k)), some (.int (nI (12 * e + k))), some (.int (nI (sdB (zW A e k).length (zI A (29 + 80 * e + 5 * k) 3)))), none, none, none] [] (fun r M' => r = none ∧ RR M' (sDt (yI A (9 + 80 * e) 16 (nI k)) e k) ∧ Chg M M' mP no2) := by
  have hC : Chg M M mP no2 := Chg.rf
  have hw32 := (hR.wt he hk).2.1
  have hs0 : ¬ zI A (29 + 80 * e + 5 * k) 1 = 0 := by rcases hst with q | q <;> rw [q] <;> decide
  have hs4 : ¬ zI A (29 + 80 * e + 5 * k) 1 = 4 := by rcases hst with q | q <;> rw [q] <;> decide
  have h8b := sdB_8 (zW A e k).length (zI A (29 + 80 * e + 5 * k) 3)
  refine g_iload 58 dMod_sendData_58 rfl ?_
  refine g_if_leN 60 81 dMod_sendData_60 rfl (by omega) (fun h60 => ?_) (fun h60 => ?_)
  · refine g_iload 81 dMod_sendData_81 rfl ?_
    refine g_top (nI (sdN (zW A e k).length (zI A (29 + 80 * e + 5 * k) 3) (zI A (9 + 80 * e) 4))) (by first | exact sdN_1 (fun w => (hpos w).1) h60 | exact sdN_2 h60 (hpos (fun w => h60 (by rw [show sdB (zW A e k).length (zI A (29 + 80 * e + 5 * k) 3) = 0 from by unfold sdB; rw [if_pos w]]; exact Nat.le_refl _))).2 h70 | exact sdN_3 h60 (hpos (fun w => h60 (by rw [show sdB (zW A e k).length (zI A (29 + 80 * e + 5 * k) 3) = 0 from by unfold sdB; rw [if_pos w]]; exact Nat.le_refl _))).2 h70) ?_
    refine g_istore 83 dMod_sendData_83 (by decide) rfl ?_
    exact g_sd3 hR he hk hb hp hst hpos rfl
  · refine g_aload_n 63 dMod_sendData_63 rfl ?_
    refine g_iload_n 64 dMod_sendData_64 rfl ?_
    refine g_callV 65 [_] dMod_sendData_65 cs_Mod_285 rfl (ci := 10) rfl (by decide) hR.1.mod rfl ⟨(Nat.le_of_ble_eq_true rfl), (Nat.le_of_ble_eq_true rfl)⟩ (Nat.le_of_ble_eq_true rfl) (ct_lsM hR he) (Nat.le_of_ble_eq_true rfl) (Nat.le_of_ble_eq_true rfl) ?_
    rintro _ M2 ⟨rfl, hM2⟩
    rw [hM2]
    clear hM2 M2
    refine g_iload 68 dMod_sendData_68 rfl ?_
    refine g_icmp_ge 70 81 dMod_sendData_70 rfl (fun h70 => ?_) (fun h70 => ?_)
    · refine g_iload 81 dMod_sendData_81 rfl ?_
      refine g_top (nI (sdN (zW A e k).length (zI A (29 + 80 * e + 5 * k) 3) (zI A (9 + 80 * e) 4))) (by first | exact sdN_1 (fun w => (hpos w).1) h60 | exact sdN_2 h60 (hpos (fun w => h60 (by rw [show sdB (zW A e k).length (zI A (29 + 80 * e + 5 * k) 3) = 0 from by unfold sdB; rw [if_pos w]]; exact Nat.le_refl _))).2 h70 | exact sdN_3 h60 (hpos (fun w => h60 (by rw [show sdB (zW A e k).length (zI A (29 + 80 * e + 5 * k) 3) = 0 from by unfold sdB; rw [if_pos w]]; exact Nat.le_refl _))).2 h70) ?_
      refine g_istore 83 dMod_sendData_83 (by decide) rfl ?_
      exact g_sd3 hR he hk hb hp hst hpos rfl
    · refine g_aload_n 73 dMod_sendData_73 rfl ?_
      refine g_iload_n 74 dMod_sendData_74 rfl ?_
      refine g_callV 75 [_] dMod_sendData_75 cs_Mod_285 rfl (ci := 10) rfl (by decide) hR.1.mod rfl ⟨(Nat.le_of_ble_eq_true rfl), (Nat.le_of_ble_eq_true rfl)⟩ (Nat.le_of_ble_eq_true rfl) (ct_lsM hR he) (Nat.le_of_ble_eq_true rfl) (Nat.le_of_ble_eq_true rfl) ?_
      rintro _ M2 ⟨rfl, hM2⟩
      rw [hM2]
      clear hM2 M2
      refine g_goto 78 83 dMod_sendData_78 rfl ?_
      refine g_top (nI (sdN (zW A e k).length (zI A (29 + 80 * e + 5 * k) 3) (zI A (9 + 80 * e) 4))) (by first | exact sdN_1 (fun w => (hpos w).1) h60 | exact sdN_2 h60 (hpos (fun w => h60 (by rw [show sdB (zW A e k).length (zI A (29 + 80 * e + 5 * k) 3) = 0 from by unfold sdB; rw [if_pos w]]; exact Nat.le_refl _))).2 h70 | exact sdN_3 h60 (hpos (fun w => h60 (by rw [show sdB (zW A e k).length (zI A (29 + 80 * e + 5 * k) 3) = 0 from by unfold sdB; rw [if_pos w]]; exact Nat.le_refl _))).2 h70) ?_
      refine g_istore 83 dMod_sendData_83 (by decide) rfl ?_
      exact g_sd3 hR he hk hb hp hst hpos rfl
set_option maxRecDepth 100000 in
set_option maxHeartbeats 4000000 in
theorem ct_sDtM {X : mX} {l : Launch} {M : mM} {A : zA} {e k : Nat} (hR : RR M A) (he : e < 2) (hk : k < 12) (hb : ∀ x, x ∈ zW A e k → bW x) (hp : (zP A (1 - e)).length ≤ 44) (hst : zI A (29 + 80 * e + 5 * k) 1 = 1 ∨ zI A (29 + 80 * e + 5 * k) 1 = 3) (hpos : ¬ (zW A e k).length = 0 → 0 < zI A (29 + 80 * e + 5 * k) 3 ∧ 0 < zI A (9 + 80 * e) 4) : Ct X l uMod_sendData (rk 1 26) [.ref 169, .int (nI e), .int (nI k)] M (fun r M' => r = none ∧ RR M' (sDt (yI A (9 + 80 * e) 16 (nI k)) e k) ∧ Chg M M' mP no2) := by
  refine Ct.of (by decide) (Nat.le_of_ble_eq_true rfl) ?_
  show G X l uMod_sendData (rk 1 26) 0 0 M 0 [some (.ref 169), some (.int (nI e)), some (.int (nI k)), none, none, none, none, none] [] _
  have hC : Chg M M mP no2 := Chg.rf
  have hw32 := (hR.wt he hk).2.1
  have hs0 : ¬ zI A (29 + 80 * e + 5 * k) 1 = 0 := by rcases hst with q | q <;> rw [q] <;> decide
  have hs4 : ¬ zI A (29 + 80 * e + 5 * k) 1 = 4 := by rcases hst with q | q <;> rw [q] <;> decide
  refine g_bipush 0 (nI 12) dMod_sendData_0 rfl ?_
  refine g_iload_n 2 dMod_sendData_2 rfl ?_
  refine g_imulN 3 dMod_sendData_3 ?_
  refine g_iload_n 4 dMod_sendData_4 rfl ?_
  refine g_iaddN 5 dMod_sendData_5 ?_
  refine g_istore_n 6 dMod_sendData_6 (by decide) rfl ?_
  refine g_aload_n 7 dMod_sendData_7 rfl ?_
  refine g_getr 8 10 27 dMod_sendData_8 fs_Mod_93 rfl hR.1.mod hR.1.R_waits ?_
  refine g_iload_n 11 dMod_sendData_11 rfl ?_
  refine g_ialdN 12 dMod_sendData_12 hR.1.T_waits (by omega) (by decide) ?_
  refine g_top (nI ((zW A e k).length)) ((hR.wt he hk).1) ?_
  refine g_bipush 13 (nI 8) dMod_sendData_13 rfl ?_
  refine g_icmp_geN 15 27 dMod_sendData_15 rfl (by omega) (by omega) (fun h15 => ?_) (fun h15 => ?_)
  · refine g_bipush 27 (nI 8) dMod_sendData_27 rfl ?_
    refine g_top (nI (min (zW A e k).length 8)) (by first | rw [Nat.min_eq_left (by omega)] | rw [Nat.min_eq_right (by omega)]) ?_
    refine g_istore 29 dMod_sendData_29 (by decide) rfl ?_
    refine g_iload 31 dMod_sendData_31 rfl ?_
    refine g_if_leN 33 54 dMod_sendData_33 rfl (by omega) (fun h33 => ?_) (fun h33 => ?_)
    · refine g_iload 54 dMod_sendData_54 rfl ?_
      refine g_top (nI (sdB (zW A e k).length (zI A (29 + 80 * e + 5 * k) 3))) (by first | exact sdB_1 h33 | exact sdB_2 h33 (hpos (by omega)).1 h43 | exact sdB_3 h33 (hpos (by omega)).1 h43) ?_
      refine g_istore 56 dMod_sendData_56 (by decide) rfl ?_
      exact g_sd2 hR he hk hb hp hst hpos
    · refine g_aload_n 36 dMod_sendData_36 rfl ?_
      refine g_iload_n 37 dMod_sendData_37 rfl ?_
      refine g_callV 38 [_] dMod_sendData_38 cs_Mod_288 rfl (ci := 10) rfl (by decide) hR.1.mod rfl ⟨(Nat.le_of_ble_eq_true rfl), (Nat.le_of_ble_eq_true rfl)⟩ (Nat.le_of_ble_eq_true rfl) (ct_swM hR he hk hs0 hs4) (Nat.le_of_ble_eq_true rfl) (Nat.le_of_ble_eq_true rfl) ?_
      rintro _ M2 ⟨rfl, hM2⟩
      rw [hM2]
      clear hM2 M2
      refine g_iload 41 dMod_sendData_41 rfl ?_
      refine g_icmp_ge 43 54 dMod_sendData_43 rfl (fun h43 => ?_) (fun h43 => ?_)
      · refine g_iload 54 dMod_sendData_54 rfl ?_
        refine g_top (nI (sdB (zW A e k).length (zI A (29 + 80 * e + 5 * k) 3))) (by first | exact sdB_1 h33 | exact sdB_2 h33 (hpos (by omega)).1 h43 | exact sdB_3 h33 (hpos (by omega)).1 h43) ?_
        refine g_istore 56 dMod_sendData_56 (by decide) rfl ?_
        exact g_sd2 hR he hk hb hp hst hpos
      · refine g_aload_n 46 dMod_sendData_46 rfl ?_
        refine g_iload_n 47 dMod_sendData_47 rfl ?_
        refine g_callV 48 [_] dMod_sendData_48 cs_Mod_288 rfl (ci := 10) rfl (by decide) hR.1.mod rfl ⟨(Nat.le_of_ble_eq_true rfl), (Nat.le_of_ble_eq_true rfl)⟩ (Nat.le_of_ble_eq_true rfl) (ct_swM hR he hk hs0 hs4) (Nat.le_of_ble_eq_true rfl) (Nat.le_of_ble_eq_true rfl) ?_
        rintro _ M2 ⟨rfl, hM2⟩
        rw [hM2]
        clear hM2 M2
        refine g_goto 51 56 dMod_sendData_51 rfl ?_
        refine g_top (nI (sdB (zW A e k).length (zI A (29 + 80 * e + 5 * k) 3))) (by first | exact sdB_1 h33 | exact sdB_2 h33 (hpos (by omega)).1 h43 | exact sdB_3 h33 (hpos (by omega)).1 h43) ?_
        refine g_istore 56 dMod_sendData_56 (by decide) rfl ?_
        exact g_sd2 hR he hk hb hp hst hpos
  · refine g_aload_n 18 dMod_sendData_18 rfl ?_
    refine g_getr 19 10 27 dMod_sendData_19 fs_Mod_93 rfl hR.1.mod hR.1.R_waits ?_
    refine g_iload_n 22 dMod_sendData_22 rfl ?_
    refine g_ialdN 23 dMod_sendData_23 hR.1.T_waits (by omega) (by decide) ?_
    refine g_top (nI ((zW A e k).length)) ((hR.wt he hk).1) ?_
    refine g_goto 24 29 dMod_sendData_24 rfl ?_
    refine g_top (nI (min (zW A e k).length 8)) (by first | rw [Nat.min_eq_left (by omega)] | rw [Nat.min_eq_right (by omega)]) ?_
    refine g_istore 29 dMod_sendData_29 (by decide) rfl ?_
    refine g_iload 31 dMod_sendData_31 rfl ?_
    refine g_if_leN 33 54 dMod_sendData_33 rfl (by omega) (fun h33 => ?_) (fun h33 => ?_)
    · refine g_iload 54 dMod_sendData_54 rfl ?_
      refine g_top (nI (sdB (zW A e k).length (zI A (29 + 80 * e + 5 * k) 3))) (by first | exact sdB_1 h33 | exact sdB_2 h33 (hpos (by omega)).1 h43 | exact sdB_3 h33 (hpos (by omega)).1 h43) ?_
      refine g_istore 56 dMod_sendData_56 (by decide) rfl ?_
      exact g_sd2 hR he hk hb hp hst hpos
    · refine g_aload_n 36 dMod_sendData_36 rfl ?_
      refine g_iload_n 37 dMod_sendData_37 rfl ?_
      refine g_callV 38 [_] dMod_sendData_38 cs_Mod_288 rfl (ci := 10) rfl (by decide) hR.1.mod rfl ⟨(Nat.le_of_ble_eq_true rfl), (Nat.le_of_ble_eq_true rfl)⟩ (Nat.le_of_ble_eq_true rfl) (ct_swM hR he hk hs0 hs4) (Nat.le_of_ble_eq_true rfl) (Nat.le_of_ble_eq_true rfl) ?_
      rintro _ M2 ⟨rfl, hM2⟩
      rw [hM2]
      clear hM2 M2
      refine g_iload 41 dMod_sendData_41 rfl ?_
      refine g_icmp_ge 43 54 dMod_sendData_43 rfl (fun h43 => ?_) (fun h43 => ?_)
      · refine g_iload 54 dMod_sendData_54 rfl ?_
        refine g_top (nI (sdB (zW A e k).length (zI A (29 + 80 * e + 5 * k) 3))) (by first | exact sdB_1 h33 | exact sdB_2 h33 (hpos (by omega)).1 h43 | exact sdB_3 h33 (hpos (by omega)).1 h43) ?_
        refine g_istore 56 dMod_sendData_56 (by decide) rfl ?_
        exact g_sd2 hR he hk hb hp hst hpos
      · refine g_aload_n 46 dMod_sendData_46 rfl ?_
        refine g_iload_n 47 dMod_sendData_47 rfl ?_
        refine g_callV 48 [_] dMod_sendData_48 cs_Mod_288 rfl (ci := 10) rfl (by decide) hR.1.mod rfl ⟨(Nat.le_of_ble_eq_true rfl), (Nat.le_of_ble_eq_true rfl)⟩ (Nat.le_of_ble_eq_true rfl) (ct_swM hR he hk hs0 hs4) (Nat.le_of_ble_eq_true rfl) (Nat.le_of_ble_eq_true rfl) ?_
        rintro _ M2 ⟨rfl, hM2⟩
        rw [hM2]
        clear hM2 M2
        refine g_goto 51 56 dMod_sendData_51 rfl ?_
        refine g_top (nI (sdB (zW A e k).length (zI A (29 + 80 * e + 5 * k) 3))) (by first | exact sdB_1 h33 | exact sdB_2 h33 (hpos (by omega)).1 h43 | exact sdB_3 h33 (hpos (by omega)).1 h43) ?_
        refine g_istore 56 dMod_sendData_56 (by decide) rfl ?_
        exact g_sd2 hR he hk hb hp hst hpos
