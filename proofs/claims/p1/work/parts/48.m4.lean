theorem dMod_giveBack_0 : decode uMod_giveBack.2.1 0 = .ok (.iload_n 2, 1) := by decide +kernel
theorem dMod_giveBack_1 : decode uMod_giveBack.2.1 1 = .ok (.ifCond .le 16, 3) := by decide +kernel
theorem dMod_giveBack_4 : decode uMod_giveBack.2.1 4 = .ok (.aload_n 0, 1) := by decide +kernel
theorem dMod_giveBack_5 : decode uMod_giveBack.2.1 5 = .ok (.iconst 1, 1) := by decide +kernel
theorem dMod_giveBack_6 : decode uMod_giveBack.2.1 6 = .ok (.iload_n 1, 1) := by decide +kernel
theorem dMod_giveBack_7 : decode uMod_giveBack.2.1 7 = .ok (.isub, 1) := by decide +kernel
theorem dMod_giveBack_8 : decode uMod_giveBack.2.1 8 = .ok (.bipush 8, 2) := by decide +kernel
theorem dMod_giveBack_10 : decode uMod_giveBack.2.1 10 = .ok (.iconst 0, 1) := by decide +kernel
theorem dMod_giveBack_11 : decode uMod_giveBack.2.1 11 = .ok (.iload_n 2, 1) := by decide +kernel
theorem dMod_giveBack_12 : decode uMod_giveBack.2.1 12 = .ok (.iconst 0, 1) := by decide +kernel
theorem dMod_giveBack_13 : decode uMod_giveBack.2.1 13 = .ok (.invokevirtual 182, 3) := by decide +kernel
theorem dMod_giveBack_16 : decode uMod_giveBack.2.1 16 = .ok (.pop, 1) := by decide +kernel
theorem dMod_giveBack_17 : decode uMod_giveBack.2.1 17 = .ok (.return_, 1) := by decide +kernel
theorem dMod_linkError_0 : decode uMod_linkError.2.1 0 = .ok (.aload_n 0, 1) := by decide +kernel
theorem dMod_linkError_1 : decode uMod_linkError.2.1 1 = .ok (.iconst 1, 1) := by decide +kernel
theorem dMod_linkError_2 : decode uMod_linkError.2.1 2 = .ok (.iload_n 1, 1) := by decide +kernel
theorem dMod_linkError_3 : decode uMod_linkError.2.1 3 = .ok (.isub, 1) := by decide +kernel
theorem dMod_linkError_4 : decode uMod_linkError.2.1 4 = .ok (.bipush 7, 2) := by decide +kernel
theorem dMod_linkError_6 : decode uMod_linkError.2.1 6 = .ok (.iconst 0, 1) := by decide +kernel
theorem dMod_linkError_7 : decode uMod_linkError.2.1 7 = .ok (.iload_n 2, 1) := by decide +kernel
theorem dMod_linkError_8 : decode uMod_linkError.2.1 8 = .ok (.iconst 0, 1) := by decide +kernel
theorem dMod_linkError_9 : decode uMod_linkError.2.1 9 = .ok (.invokevirtual 182, 3) := by decide +kernel
theorem dMod_linkError_12 : decode uMod_linkError.2.1 12 = .ok (.pop, 1) := by decide +kernel
theorem dMod_linkError_13 : decode uMod_linkError.2.1 13 = .ok (.aload_n 0, 1) := by decide +kernel
theorem dMod_linkError_14 : decode uMod_linkError.2.1 14 = .ok (.getfield 7, 3) := by decide +kernel
theorem dMod_linkError_17 : decode uMod_linkError.2.1 17 = .ok (.iload_n 1, 1) := by decide +kernel
theorem dMod_linkError_18 : decode uMod_linkError.2.1 18 = .ok (.bipush 100, 2) := by decide +kernel
theorem dMod_linkError_20 : decode uMod_linkError.2.1 20 = .ok (.iload_n 2, 1) := by decide +kernel
theorem dMod_linkError_21 : decode uMod_linkError.2.1 21 = .ok (.iadd, 1) := by decide +kernel
theorem dMod_linkError_22 : decode uMod_linkError.2.1 22 = .ok (.iastore, 1) := by decide +kernel
theorem dMod_linkError_23 : decode uMod_linkError.2.1 23 = .ok (.bipush 100, 2) := by decide +kernel
theorem dMod_linkError_25 : decode uMod_linkError.2.1 25 = .ok (.iload_n 2, 1) := by decide +kernel
theorem dMod_linkError_26 : decode uMod_linkError.2.1 26 = .ok (.iadd, 1) := by decide +kernel
theorem dMod_linkError_27 : decode uMod_linkError.2.1 27 = .ok (.ireturn, 1) := by decide +kernel
theorem dMod_step_0 : decode uMod_step.2.1 0 = .ok (.bipush 8, 2) := by decide +kernel
theorem dMod_step_2 : decode uMod_step.2.1 2 = .ok (.iload_n 1, 1) := by decide +kernel
theorem dMod_step_3 : decode uMod_step.2.1 3 = .ok (.imul, 1) := by decide +kernel
theorem dMod_step_4 : decode uMod_step.2.1 4 = .ok (.aload_n 0, 1) := by decide +kernel
theorem dMod_step_5 : decode uMod_step.2.1 5 = .ok (.getfield 25, 3) := by decide +kernel
theorem dMod_step_8 : decode uMod_step.2.1 8 = .ok (.iload_n 1, 1) := by decide +kernel
theorem dMod_step_9 : decode uMod_step.2.1 9 = .ok (.iaload, 1) := by decide +kernel
theorem dMod_step_10 : decode uMod_step.2.1 10 = .ok (.iadd, 1) := by decide +kernel
theorem dMod_step_11 : decode uMod_step.2.1 11 = .ok (.istore 6, 2) := by decide +kernel
theorem dMod_step_13 : decode uMod_step.2.1 13 = .ok (.aload_n 0, 1) := by decide +kernel
theorem dMod_step_14 : decode uMod_step.2.1 14 = .ok (.getfield 39, 3) := by decide +kernel
theorem dMod_step_17 : decode uMod_step.2.1 17 = .ok (.iload 6, 2) := by decide +kernel
theorem dMod_step_19 : decode uMod_step.2.1 19 = .ok (.iload_n 2, 1) := by decide +kernel
theorem dMod_step_20 : decode uMod_step.2.1 20 = .ok (.iastore, 1) := by decide +kernel
theorem dMod_step_21 : decode uMod_step.2.1 21 = .ok (.aload_n 0, 1) := by decide +kernel
theorem dMod_step_22 : decode uMod_step.2.1 22 = .ok (.getfield 42, 3) := by decide +kernel
theorem dMod_step_25 : decode uMod_step.2.1 25 = .ok (.iload 6, 2) := by decide +kernel
theorem dMod_step_27 : decode uMod_step.2.1 27 = .ok (.iload_n 3, 1) := by decide +kernel
theorem dMod_step_28 : decode uMod_step.2.1 28 = .ok (.iastore, 1) := by decide +kernel
theorem dMod_step_29 : decode uMod_step.2.1 29 = .ok (.aload_n 0, 1) := by decide +kernel
theorem dMod_step_30 : decode uMod_step.2.1 30 = .ok (.getfield 45, 3) := by decide +kernel
theorem dMod_step_33 : decode uMod_step.2.1 33 = .ok (.iload 6, 2) := by decide +kernel
theorem dMod_step_35 : decode uMod_step.2.1 35 = .ok (.iload 4, 2) := by decide +kernel
theorem dMod_step_37 : decode uMod_step.2.1 37 = .ok (.iastore, 1) := by decide +kernel
theorem dMod_step_38 : decode uMod_step.2.1 38 = .ok (.aload_n 0, 1) := by decide +kernel
theorem dMod_step_39 : decode uMod_step.2.1 39 = .ok (.getfield 48, 3) := by decide +kernel
theorem dMod_step_42 : decode uMod_step.2.1 42 = .ok (.iload 6, 2) := by decide +kernel
theorem dMod_step_44 : decode uMod_step.2.1 44 = .ok (.iload 5, 2) := by decide +kernel
theorem dMod_step_46 : decode uMod_step.2.1 46 = .ok (.iastore, 1) := by decide +kernel
theorem dMod_step_47 : decode uMod_step.2.1 47 = .ok (.aload_n 0, 1) := by decide +kernel
theorem dMod_step_48 : decode uMod_step.2.1 48 = .ok (.getfield 25, 3) := by decide +kernel
theorem dMod_step_51 : decode uMod_step.2.1 51 = .ok (.iload_n 1, 1) := by decide +kernel
theorem dMod_step_52 : decode uMod_step.2.1 52 = .ok (.aload_n 0, 1) := by decide +kernel
theorem dMod_step_53 : decode uMod_step.2.1 53 = .ok (.getfield 25, 3) := by decide +kernel
theorem dMod_step_56 : decode uMod_step.2.1 56 = .ok (.iload_n 1, 1) := by decide +kernel
theorem dMod_step_57 : decode uMod_step.2.1 57 = .ok (.iaload, 1) := by decide +kernel
theorem dMod_step_58 : decode uMod_step.2.1 58 = .ok (.iconst 1, 1) := by decide +kernel
theorem dMod_step_59 : decode uMod_step.2.1 59 = .ok (.iadd, 1) := by decide +kernel
theorem dMod_step_60 : decode uMod_step.2.1 60 = .ok (.iastore, 1) := by decide +kernel
theorem dMod_step_61 : decode uMod_step.2.1 61 = .ok (.return_, 1) := by decide +kernel
theorem dMod_inject_0 : decode uMod_inject.2.1 0 = .ok (.iload_n 2, 1) := by decide +kernel
theorem dMod_inject_1 : decode uMod_inject.2.1 1 = .ok (.ifCond .eq 30, 3) := by decide +kernel
theorem dMod_inject_4 : decode uMod_inject.2.1 4 = .ok (.iload_n 2, 1) := by decide +kernel
theorem dMod_inject_5 : decode uMod_inject.2.1 5 = .ok (.iconst 1, 1) := by decide +kernel
theorem dMod_inject_6 : decode uMod_inject.2.1 6 = .ok (.if_icmp .eq 25, 3) := by decide +kernel
theorem dMod_inject_9 : decode uMod_inject.2.1 9 = .ok (.iload_n 2, 1) := by decide +kernel
theorem dMod_inject_10 : decode uMod_inject.2.1 10 = .ok (.iconst 3, 1) := by decide +kernel
theorem dMod_inject_11 : decode uMod_inject.2.1 11 = .ok (.if_icmp .eq 20, 3) := by decide +kernel
theorem dMod_inject_14 : decode uMod_inject.2.1 14 = .ok (.iload_n 2, 1) := by decide +kernel
theorem dMod_inject_15 : decode uMod_inject.2.1 15 = .ok (.iconst 4, 1) := by decide +kernel
theorem dMod_inject_16 : decode uMod_inject.2.1 16 = .ok (.if_icmp .eq 15, 3) := by decide +kernel
theorem dMod_inject_19 : decode uMod_inject.2.1 19 = .ok (.iload_n 2, 1) := by decide +kernel
theorem dMod_inject_20 : decode uMod_inject.2.1 20 = .ok (.bipush 7, 2) := by decide +kernel
theorem dMod_inject_22 : decode uMod_inject.2.1 22 = .ok (.if_icmp .eq 9, 3) := by decide +kernel
theorem dMod_inject_25 : decode uMod_inject.2.1 25 = .ok (.iload_n 2, 1) := by decide +kernel
theorem dMod_inject_26 : decode uMod_inject.2.1 26 = .ok (.bipush 8, 2) := by decide +kernel
theorem dMod_inject_28 : decode uMod_inject.2.1 28 = .ok (.if_icmp .ne 7, 3) := by decide +kernel
theorem dMod_inject_31 : decode uMod_inject.2.1 31 = .ok (.iconst 1, 1) := by decide +kernel
theorem dMod_inject_32 : decode uMod_inject.2.1 32 = .ok (.goto 4, 3) := by decide +kernel
theorem dMod_inject_35 : decode uMod_inject.2.1 35 = .ok (.iconst 0, 1) := by decide +kernel
theorem dMod_inject_36 : decode uMod_inject.2.1 36 = .ok (.istore 6, 2) := by decide +kernel
theorem dMod_inject_38 : decode uMod_inject.2.1 38 = .ok (.iload_n 1, 1) := by decide +kernel
theorem dMod_inject_39 : decode uMod_inject.2.1 39 = .ok (.invokestatic 171, 3) := by decide +kernel
theorem dMod_inject_42 : decode uMod_inject.2.1 42 = .ok (.ifCond .eq 41, 3) := by decide +kernel
theorem dMod_inject_45 : decode uMod_inject.2.1 45 = .ok (.iload 6, 2) := by decide +kernel
theorem dMod_inject_47 : decode uMod_inject.2.1 47 = .ok (.ifCond .eq 36, 3) := by decide +kernel
theorem dMod_inject_50 : decode uMod_inject.2.1 50 = .ok (.iload_n 2, 1) := by decide +kernel
theorem dMod_inject_51 : decode uMod_inject.2.1 51 = .ok (.ifCond .eq 9, 3) := by decide +kernel
theorem dMod_inject_54 : decode uMod_inject.2.1 54 = .ok (.iload_n 2, 1) := by decide +kernel
theorem dMod_inject_55 : decode uMod_inject.2.1 55 = .ok (.bipush 7, 2) := by decide +kernel
theorem dMod_inject_57 : decode uMod_inject.2.1 57 = .ok (.if_icmp .ne 15, 3) := by decide +kernel
theorem dMod_inject_60 : decode uMod_inject.2.1 60 = .ok (.iload 4, 2) := by decide +kernel
theorem dMod_inject_62 : decode uMod_inject.2.1 62 = .ok (.ifCond .lt 21, 3) := by decide +kernel
theorem dMod_inject_65 : decode uMod_inject.2.1 65 = .ok (.iload 4, 2) := by decide +kernel
theorem dMod_inject_67 : decode uMod_inject.2.1 67 = .ok (.bipush 15, 2) := by decide +kernel
theorem dMod_inject_69 : decode uMod_inject.2.1 69 = .ok (.if_icmp .gt 14, 3) := by decide +kernel
theorem dMod_inject_72 : decode uMod_inject.2.1 72 = .ok (.aload_n 0, 1) := by decide +kernel
theorem dMod_inject_73 : decode uMod_inject.2.1 73 = .ok (.getfield 16, 3) := by decide +kernel
theorem dMod_inject_76 : decode uMod_inject.2.1 76 = .ok (.iload_n 1, 1) := by decide +kernel
theorem dMod_inject_77 : decode uMod_inject.2.1 77 = .ok (.iaload, 1) := by decide +kernel
theorem dMod_inject_78 : decode uMod_inject.2.1 78 = .ok (.bipush 30, 2) := by decide +kernel
theorem dMod_inject_80 : decode uMod_inject.2.1 80 = .ok (.if_icmp .lt 5, 3) := by decide +kernel
theorem dMod_inject_83 : decode uMod_inject.2.1 83 = .ok (.iconst 0, 1) := by decide +kernel
theorem dMod_inject_84 : decode uMod_inject.2.1 84 = .ok (.ireturn, 1) := by decide +kernel
theorem dMod_inject_85 : decode uMod_inject.2.1 85 = .ok (.iload_n 2, 1) := by decide +kernel
theorem dMod_inject_86 : decode uMod_inject.2.1 86 = .ok (.iconst 4, 1) := by decide +kernel
theorem dMod_inject_87 : decode uMod_inject.2.1 87 = .ok (.if_icmp .eq 9, 3) := by decide +kernel
theorem dMod_inject_90 : decode uMod_inject.2.1 90 = .ok (.iload_n 2, 1) := by decide +kernel
theorem dMod_inject_91 : decode uMod_inject.2.1 91 = .ok (.bipush 7, 2) := by decide +kernel
theorem dMod_inject_93 : decode uMod_inject.2.1 93 = .ok (.if_icmp .ne 7, 3) := by decide +kernel
theorem dMod_inject_96 : decode uMod_inject.2.1 96 = .ok (.iconst 1, 1) := by decide +kernel
theorem dMod_inject_97 : decode uMod_inject.2.1 97 = .ok (.goto 4, 3) := by decide +kernel
theorem dMod_inject_100 : decode uMod_inject.2.1 100 = .ok (.iconst 0, 1) := by decide +kernel
theorem dMod_inject_101 : decode uMod_inject.2.1 101 = .ok (.istore 7, 2) := by decide +kernel
theorem dMod_inject_103 : decode uMod_inject.2.1 103 = .ok (.iload_n 2, 1) := by decide +kernel
theorem dMod_inject_104 : decode uMod_inject.2.1 104 = .ok (.iconst 4, 1) := by decide +kernel
theorem dMod_inject_105 : decode uMod_inject.2.1 105 = .ok (.if_icmp .ne 12, 3) := by decide +kernel
theorem dMod_inject_108 : decode uMod_inject.2.1 108 = .ok (.iload 5, 2) := by decide +kernel
theorem dMod_inject_110 : decode uMod_inject.2.1 110 = .ok (.ifCond .eq 7, 3) := by decide +kernel
theorem dMod_inject_113 : decode uMod_inject.2.1 113 = .ok (.iconst 1, 1) := by decide +kernel
theorem dMod_inject_114 : decode uMod_inject.2.1 114 = .ok (.goto 4, 3) := by decide +kernel
theorem dMod_inject_117 : decode uMod_inject.2.1 117 = .ok (.iconst 0, 1) := by decide +kernel
theorem dMod_inject_118 : decode uMod_inject.2.1 118 = .ok (.istore 8, 2) := by decide +kernel
theorem dMod_inject_120 : decode uMod_inject.2.1 120 = .ok (.aload_n 0, 1) := by decide +kernel
theorem dMod_inject_121 : decode uMod_inject.2.1 121 = .ok (.iload_n 1, 1) := by decide +kernel
theorem dMod_inject_122 : decode uMod_inject.2.1 122 = .ok (.iload_n 2, 1) := by decide +kernel
theorem dMod_inject_123 : decode uMod_inject.2.1 123 = .ok (.iload 7, 2) := by decide +kernel
theorem dMod_inject_125 : decode uMod_inject.2.1 125 = .ok (.ifCond .eq 7, 3) := by decide +kernel
theorem dMod_inject_128 : decode uMod_inject.2.1 128 = .ok (.iconst 0, 1) := by decide +kernel
theorem dMod_inject_129 : decode uMod_inject.2.1 129 = .ok (.goto 4, 3) := by decide +kernel
theorem dMod_inject_132 : decode uMod_inject.2.1 132 = .ok (.iload_n 3, 1) := by decide +kernel
theorem dMod_inject_133 : decode uMod_inject.2.1 133 = .ok (.iload_n 2, 1) := by decide +kernel
theorem dMod_inject_134 : decode uMod_inject.2.1 134 = .ok (.iconst 1, 1) := by decide +kernel
theorem dMod_inject_135 : decode uMod_inject.2.1 135 = .ok (.if_icmp .eq 8, 3) := by decide +kernel
theorem dMod_inject_138 : decode uMod_inject.2.1 138 = .ok (.iload 8, 2) := by decide +kernel
theorem dMod_inject_140 : decode uMod_inject.2.1 140 = .ok (.ifCond .eq 7, 3) := by decide +kernel
theorem dMod_inject_143 : decode uMod_inject.2.1 143 = .ok (.iconst 0, 1) := by decide +kernel
theorem dMod_inject_144 : decode uMod_inject.2.1 144 = .ok (.goto 5, 3) := by decide +kernel
theorem dMod_inject_147 : decode uMod_inject.2.1 147 = .ok (.iload 4, 2) := by decide +kernel
theorem dMod_inject_149 : decode uMod_inject.2.1 149 = .ok (.iload_n 2, 1) := by decide +kernel
theorem dMod_inject_150 : decode uMod_inject.2.1 150 = .ok (.iconst 2, 1) := by decide +kernel
theorem dMod_inject_151 : decode uMod_inject.2.1 151 = .ok (.if_icmp .ge 8, 3) := by decide +kernel
theorem dMod_inject_154 : decode uMod_inject.2.1 154 = .ok (.iload 5, 2) := by decide +kernel
theorem dMod_inject_156 : decode uMod_inject.2.1 156 = .ok (.ifCond .ne 8, 3) := by decide +kernel
theorem dMod_inject_159 : decode uMod_inject.2.1 159 = .ok (.iload 8, 2) := by decide +kernel
theorem dMod_inject_161 : decode uMod_inject.2.1 161 = .ok (.ifCond .eq 7, 3) := by decide +kernel
theorem dMod_inject_164 : decode uMod_inject.2.1 164 = .ok (.iconst 1, 1) := by decide +kernel
theorem dMod_inject_165 : decode uMod_inject.2.1 165 = .ok (.goto 4, 3) := by decide +kernel
theorem dMod_inject_168 : decode uMod_inject.2.1 168 = .ok (.iconst 0, 1) := by decide +kernel
theorem dMod_inject_169 : decode uMod_inject.2.1 169 = .ok (.invokevirtual 182, 3) := by decide +kernel
theorem dMod_inject_172 : decode uMod_inject.2.1 172 = .ok (.istore 9, 2) := by decide +kernel
theorem dMod_inject_174 : decode uMod_inject.2.1 174 = .ok (.aload_n 0, 1) := by decide +kernel
theorem dMod_inject_175 : decode uMod_inject.2.1 175 = .ok (.getfield 32, 3) := by decide +kernel
theorem dMod_inject_178 : decode uMod_inject.2.1 178 = .ok (.iload 9, 2) := by decide +kernel
theorem dMod_inject_180 : decode uMod_inject.2.1 180 = .ok (.iload_n 2, 1) := by decide +kernel
theorem dMod_inject_181 : decode uMod_inject.2.1 181 = .ok (.iconst 4, 1) := by decide +kernel
theorem dMod_inject_182 : decode uMod_inject.2.1 182 = .ok (.if_icmp .ne 12, 3) := by decide +kernel
theorem dMod_inject_185 : decode uMod_inject.2.1 185 = .ok (.iload 8, 2) := by decide +kernel
theorem dMod_inject_187 : decode uMod_inject.2.1 187 = .ok (.ifCond .ne 7, 3) := by decide +kernel
theorem dMod_inject_190 : decode uMod_inject.2.1 190 = .ok (.iload_n 3, 1) := by decide +kernel
theorem dMod_inject_191 : decode uMod_inject.2.1 191 = .ok (.goto 4, 3) := by decide +kernel
theorem dMod_inject_194 : decode uMod_inject.2.1 194 = .ok (.iconst 0, 1) := by decide +kernel
theorem dMod_inject_195 : decode uMod_inject.2.1 195 = .ok (.iastore, 1) := by decide +kernel
theorem dMod_inject_196 : decode uMod_inject.2.1 196 = .ok (.iload_n 2, 1) := by decide +kernel
theorem dMod_inject_197 : decode uMod_inject.2.1 197 = .ok (.iconst 1, 1) := by decide +kernel
theorem dMod_inject_198 : decode uMod_inject.2.1 198 = .ok (.if_icmp .ne 14, 3) := by decide +kernel
theorem dMod_inject_201 : decode uMod_inject.2.1 201 = .ok (.aload_n 0, 1) := by decide +kernel
theorem dMod_inject_202 : decode uMod_inject.2.1 202 = .ok (.iload 9, 2) := by decide +kernel
theorem dMod_inject_204 : decode uMod_inject.2.1 204 = .ok (.iconst 1, 1) := by decide +kernel
theorem dMod_inject_205 : decode uMod_inject.2.1 205 = .ok (.iload 4, 2) := by decide +kernel
theorem dMod_inject_207 : decode uMod_inject.2.1 207 = .ok (.iconst 0, 1) := by decide +kernel
theorem dMod_inject_208 : decode uMod_inject.2.1 208 = .ok (.iconst 0, 1) := by decide +kernel
theorem dMod_inject_209 : decode uMod_inject.2.1 209 = .ok (.invokevirtual 219, 3) := by decide +kernel
theorem dMod_inject_212 : decode uMod_inject.2.1 212 = .ok (.iconst 1, 1) := by decide +kernel
theorem dMod_inject_213 : decode uMod_inject.2.1 213 = .ok (.ireturn, 1) := by decide +kernel
theorem cs_Mod_279 : cSt "InterleavedLinkModel" 279 uMod_known 1 := ⟨⟨Or.inl (gW_in 1156 (by decide +kernel) rfl), (gW_in 74 (by decide +kernel) rfl), (gW_in 1158 (by decide +kernel) rfl), ⟨by decide, by decide⟩, by decide +kernel⟩, (gW_in 1157 (by decide +kernel) rfl)⟩
theorem cs_Mod_282 : cSt "InterleavedLinkModel" 282 uMod_highest 1 := ⟨⟨Or.inl (gW_in 1159 (by decide +kernel) rfl), (gW_in 74 (by decide +kernel) rfl), (gW_in 1161 (by decide +kernel) rfl), ⟨by decide, by decide⟩, by decide +kernel⟩, (gW_in 1160 (by decide +kernel) rfl)⟩
theorem fs_Mod_132 : fS "InterleavedLinkModel" 132 10 41 := ⟨"InterleavedLinkModel", T_Mod, 56, cf_Mod, by decide, Or.inl (gW_in 902 (by decide +kernel) rfl)⟩
theorem fs_Mod_135 : fS "InterleavedLinkModel" 135 10 42 := ⟨"InterleavedLinkModel", T_Mod, 56, cf_Mod, by decide, Or.inl (gW_in 903 (by decide +kernel) rfl)⟩
theorem fs_Mod_138 : fS "InterleavedLinkModel" 138 10 43 := ⟨"InterleavedLinkModel", T_Mod, 56, cf_Mod, by decide, Or.inl (gW_in 904 (by decide +kernel) rfl)⟩
theorem cs_Mod_182 : cV "InterleavedLinkModel" 182 uMod_push 5 := ⟨⟨Or.inl (gW_in 1052 (by decide +kernel) rfl), (gW_in 74 (by decide +kernel) rfl), (gW_in 1055 (by decide +kernel) rfl), ⟨by decide, by decide⟩, by decide +kernel⟩, (gW_in 1054 (by decide +kernel) rfl), (gW_in 28 (by decide +kernel) rfl)⟩
theorem fs_Mod_39 : fS "InterleavedLinkModel" 39 10 9 := ⟨"InterleavedLinkModel", T_Mod, 56, cf_Mod, by decide, Or.inl (gW_in 870 (by decide +kernel) rfl)⟩
theorem fs_Mod_42 : fS "InterleavedLinkModel" 42 10 10 := ⟨"InterleavedLinkModel", T_Mod, 56, cf_Mod, by decide, Or.inl (gW_in 871 (by decide +kernel) rfl)⟩
theorem fs_Mod_45 : fS "InterleavedLinkModel" 45 10 11 := ⟨"InterleavedLinkModel", T_Mod, 56, cf_Mod, by decide, Or.inl (gW_in 872 (by decide +kernel) rfl)⟩
theorem fs_Mod_48 : fS "InterleavedLinkModel" 48 10 12 := ⟨"InterleavedLinkModel", T_Mod, 56, cf_Mod, by decide, Or.inl (gW_in 873 (by decide +kernel) rfl)⟩
theorem cs_Mod_219 : cV "InterleavedLinkModel" 219 uMod_step 5 := ⟨⟨Or.inl (gW_in 1194 (by decide +kernel) rfl), (gW_in 74 (by decide +kernel) rfl), (gW_in 1197 (by decide +kernel) rfl), ⟨by decide, by decide⟩, by decide +kernel⟩, (gW_in 1196 (by decide +kernel) rfl), (gW_in 58 (by decide +kernel) rfl)⟩
/-! ===== the reference: setting, giving back, errors, steps, inject ===== -/
theorem rg_hi {s v : Int32} (h : ¬ knC s = 0) : rgC s v = wi v 0 (hiA s) := by
  unfold knC at h
  unfold rgC hiA
  by_cases h1 : s = 1
  · simp [h1]
  by_cases h3 : s = 3
  · simp [h3]
  by_cases h4 : s = 4
  · simp [h4]
  · simp [h1, h3, h4] at h
theorem kn_eq (s : Int32) : knA s = knC s := rfl
def setRS (M : mM) (e c : Nat) (s v : Int32) : mM := setI (setI (setI M 211 (8 * e + c) s) 212 (8 * e + c) v) 210 e (nI (c + 1))
set_option maxRecDepth 100000 in
set_option maxHeartbeats 4000000 in
theorem cm_setting_bad {X : mX} {l : Launch} {M : mM} {e : Nat} (hS : Shp M) (he : e < 2) (hu : Rdowns M e = 0) {s v : Int32} (hb : knC s = 0 ∨ rgC s v = 0) : Ct X l uMod_setting (rk 2 41) [.ref 169, .int (nI e), .int s, .int v] M (fun r M' => r = some (.int 0) ∧ M' = M) := by
  refine Ct.of (by decide) (Nat.le_of_ble_eq_true rfl) ?_
  show G X l uMod_setting (rk 2 41) 0 0 M 0 [some (.ref 169), some (.int (nI e)), some (.int s), some (.int v), none] [] _
  refine g_aload_n 0 dMod_setting_0 rfl ?_
  refine g_iload_n 1 dMod_setting_1 rfl ?_
  refine g_callV 2 [_] dMod_setting_2 cs_Mod_309 rfl (ci := 10) rfl (by decide) hS.mod rfl ⟨(Nat.le_of_ble_eq_true rfl), (Nat.le_of_ble_eq_true rfl)⟩ (Nat.le_of_ble_eq_true rfl) (ct_up_y hS he hu) (Nat.le_of_ble_eq_true rfl) (Nat.le_of_ble_eq_true rfl) ?_
  rintro _ M2 ⟨rfl, hM2⟩
  rw [hM2]
  clear hM2 M2
  refine g_if_eq 5 46 dMod_setting_5 rfl (fun h5 => ?_) (fun h5 => ?_)
  · exact absurd h5 (by decide)
  · refine g_iload_n 8 dMod_setting_8 rfl ?_
    refine g_callS 9 [_] dMod_setting_9 cs_Mod_279 rfl rfl ⟨(Nat.le_of_ble_eq_true rfl), (Nat.le_of_ble_eq_true rfl)⟩ (Nat.le_of_ble_eq_true rfl) (cm_known) (Nat.le_of_ble_eq_true rfl) (Nat.le_of_ble_eq_true rfl) ?_
    rintro _ M2 ⟨rfl, hM2⟩
    rw [hM2, kn_eq]
    clear hM2 M2
    refine g_if_eq 12 46 dMod_setting_12 rfl (fun h12 => ?_) (fun h12 => ?_)
    · refine g_iconst 46 0 dMod_setting_46 rfl ?_
      exact g_zret 47 dMod_setting_47 rfl (by decide) ⟨rfl, rfl⟩
    · have hb := hb.resolve_left h12
      rw [rg_hi h12] at hb
      refine g_iload_n 15 dMod_setting_15 rfl ?_
      refine g_if_lt 16 46 dMod_setting_16 rfl (fun h16 => ?_) (fun h16 => ?_)
      · refine g_iconst 46 0 dMod_setting_46 rfl ?_
        exact g_zret 47 dMod_setting_47 rfl (by decide) ⟨rfl, rfl⟩
      · refine g_iload_n 19 dMod_setting_19 rfl ?_
        refine g_iload_n 20 dMod_setting_20 rfl ?_
        refine g_callS 21 [_] dMod_setting_21 cs_Mod_282 rfl rfl ⟨(Nat.le_of_ble_eq_true rfl), (Nat.le_of_ble_eq_true rfl)⟩ (Nat.le_of_ble_eq_true rfl) (cm_highest) (Nat.le_of_ble_eq_true rfl) (Nat.le_of_ble_eq_true rfl) ?_
        rintro _ M2 ⟨rfl, hM2⟩
        rw [hM2]
        clear hM2 M2
        refine g_icmp_gt 24 46 dMod_setting_24 rfl (fun h24 => ?_) (fun h24 => ?_)
        · refine g_iconst 46 0 dMod_setting_46 rfl ?_
          exact g_zret 47 dMod_setting_47 rfl (by decide) ⟨rfl, rfl⟩
        · exact absurd hb (by simp only [wi, if_neg h16, if_neg h24]; decide)

set_option maxRecDepth 100000 in
set_option maxHeartbeats 4000000 in
theorem cm_setting_full {X : mX} {l : Launch} {M : mM} {e : Nat} (hS : Shp M) (he : e < 2) (hu : Rdowns M e = 0) {s v : Int32} (hc : 8 ≤ Ropen M e ∨ ¬ Rcount M (1 - e) < 30) : Ct X l uMod_setting (rk 2 41) [.ref 169, .int (nI e), .int s, .int v] M (fun r M' => r = some (.int 0) ∧ M' = M) := by
  refine Ct.of (by decide) (Nat.le_of_ble_eq_true rfl) ?_
  show G X l uMod_setting (rk 2 41) 0 0 M 0 [some (.ref 169), some (.int (nI e)), some (.int s), some (.int v), none] [] _
  refine g_aload_n 0 dMod_setting_0 rfl ?_
  refine g_iload_n 1 dMod_setting_1 rfl ?_
  refine g_callV 2 [_] dMod_setting_2 cs_Mod_309 rfl (ci := 10) rfl (by decide) hS.mod rfl ⟨(Nat.le_of_ble_eq_true rfl), (Nat.le_of_ble_eq_true rfl)⟩ (Nat.le_of_ble_eq_true rfl) (ct_up_y hS he hu) (Nat.le_of_ble_eq_true rfl) (Nat.le_of_ble_eq_true rfl) ?_
  rintro _ M2 ⟨rfl, hM2⟩
  rw [hM2]
  clear hM2 M2
  refine g_if_eq 5 46 dMod_setting_5 rfl (fun h5 => ?_) (fun h5 => ?_)
  · exact absurd h5 (by decide)
  · refine g_iload_n 8 dMod_setting_8 rfl ?_
    refine g_callS 9 [_] dMod_setting_9 cs_Mod_279 rfl rfl ⟨(Nat.le_of_ble_eq_true rfl), (Nat.le_of_ble_eq_true rfl)⟩ (Nat.le_of_ble_eq_true rfl) (cm_known) (Nat.le_of_ble_eq_true rfl) (Nat.le_of_ble_eq_true rfl) ?_
    rintro _ M2 ⟨rfl, hM2⟩
    rw [hM2, kn_eq]
    clear hM2 M2
    refine g_if_eq 12 46 dMod_setting_12 rfl (fun h12 => ?_) (fun h12 => ?_)
    · refine g_iconst 46 0 dMod_setting_46 rfl ?_
      exact g_zret 47 dMod_setting_47 rfl (by decide) ⟨rfl, rfl⟩
    · refine g_iload_n 15 dMod_setting_15 rfl ?_
      refine g_if_lt 16 46 dMod_setting_16 rfl (fun h16 => ?_) (fun h16 => ?_)
      · refine g_iconst 46 0 dMod_setting_46 rfl ?_
        exact g_zret 47 dMod_setting_47 rfl (by decide) ⟨rfl, rfl⟩
      · refine g_iload_n 19 dMod_setting_19 rfl ?_
        refine g_iload_n 20 dMod_setting_20 rfl ?_
        refine g_callS 21 [_] dMod_setting_21 cs_Mod_282 rfl rfl ⟨(Nat.le_of_ble_eq_true rfl), (Nat.le_of_ble_eq_true rfl)⟩ (Nat.le_of_ble_eq_true rfl) (cm_highest) (Nat.le_of_ble_eq_true rfl) (Nat.le_of_ble_eq_true rfl) ?_
        rintro _ M2 ⟨rfl, hM2⟩
        rw [hM2]
        clear hM2 M2
        refine g_icmp_gt 24 46 dMod_setting_24 rfl (fun h24 => ?_) (fun h24 => ?_)
        · refine g_iconst 46 0 dMod_setting_46 rfl ?_
          exact g_zret 47 dMod_setting_47 rfl (by decide) ⟨rfl, rfl⟩
        · refine g_aload_n 27 dMod_setting_27 rfl ?_
          refine g_getr 28 10 41 dMod_setting_28 fs_Mod_132 rfl hS.mod hS.R_open ?_
          refine g_iload_n 31 dMod_setting_31 rfl ?_
          refine g_ialdN 32 dMod_setting_32 hS.T_open (by omega) (by decide) ?_
          refine g_bipush 33 8 dMod_setting_33 rfl ?_
          refine g_icmp_ge 35 46 dMod_setting_35 rfl (fun h35 => ?_) (fun h35 => ?_)
          · refine g_iconst 46 0 dMod_setting_46 rfl ?_
            exact g_zret 47 dMod_setting_47 rfl (by decide) ⟨rfl, rfl⟩
          · refine g_aload_n 38 dMod_setting_38 rfl ?_
            refine g_iload_n 39 dMod_setting_39 rfl ?_
            refine g_callV 40 [_] dMod_setting_40 cs_Mod_315 rfl (ci := 10) rfl (by decide) hS.mod rfl ⟨(Nat.le_of_ble_eq_true rfl), (Nat.le_of_ble_eq_true rfl)⟩ (Nat.le_of_ble_eq_true rfl) (ct_Mod_full hS he) (Nat.le_of_ble_eq_true rfl) (Nat.le_of_ble_eq_true rfl) ?_
            rintro _ M2 ⟨rfl, hM2⟩
            rw [hM2]
            clear hM2 M2
            refine g_if_eq 43 48 dMod_setting_43 rfl (fun h43 => ?_) (fun h43 => ?_)
            · exact absurd (by rw [if_neg (hc.resolve_left h35)] at h43; exact h43) (by decide)
            · refine g_iconst 46 0 dMod_setting_46 rfl ?_
              exact g_zret 47 dMod_setting_47 rfl (by decide) ⟨rfl, rfl⟩

set_option maxRecDepth 100000 in
set_option maxHeartbeats 4000000 in
theorem cm_setting {X : mX} {l : Launch} {M : mM} {e : Nat} (hS : Shp M) (he : e < 2) (hu : Rdowns M e = 0) {s v : Int32} (hk : ¬ knC s = 0) (hr : ¬ rgC s v = 0) {c : Nat} (hc : Ropen M e = nI c) (hc8 : c < 8) {h n : Nat} (q1 : Rhead M (1 - e) = nI h) (q2 : Rcount M (1 - e) = nI n) (hh : h < 48) (hn : n < 30) : Ct X l uMod_setting (rk 2 41) [.ref 169, .int (nI e), .int s, .int v] M (fun r M' => r = some (.int 1) ∧ M' = setI (pushM (setRS M e c s v) (1 - e) h n 4 0 v 0) 177 (48 * (1 - e) + (h + n) % 48) s) := by
  refine Ct.of (by decide) (Nat.le_of_ble_eq_true rfl) ?_
  show G X l uMod_setting (rk 2 41) 0 0 M 0 [some (.ref 169), some (.int (nI e)), some (.int s), some (.int v), none] [] _
  refine g_aload_n 0 dMod_setting_0 rfl ?_
  refine g_iload_n 1 dMod_setting_1 rfl ?_
  refine g_callV 2 [_] dMod_setting_2 cs_Mod_309 rfl (ci := 10) rfl (by decide) hS.mod rfl ⟨(Nat.le_of_ble_eq_true rfl), (Nat.le_of_ble_eq_true rfl)⟩ (Nat.le_of_ble_eq_true rfl) (ct_up_y hS he hu) (Nat.le_of_ble_eq_true rfl) (Nat.le_of_ble_eq_true rfl) ?_
  rintro _ M2 ⟨rfl, hM2⟩
  rw [hM2]
  clear hM2 M2
  refine g_if_eq 5 46 dMod_setting_5 rfl (fun h5 => ?_) (fun h5 => ?_)
  · exact absurd h5 (by decide)
  · refine g_iload_n 8 dMod_setting_8 rfl ?_
    refine g_callS 9 [_] dMod_setting_9 cs_Mod_279 rfl rfl ⟨(Nat.le_of_ble_eq_true rfl), (Nat.le_of_ble_eq_true rfl)⟩ (Nat.le_of_ble_eq_true rfl) (cm_known) (Nat.le_of_ble_eq_true rfl) (Nat.le_of_ble_eq_true rfl) ?_
    rintro _ M2 ⟨rfl, hM2⟩
    rw [hM2, kn_eq]
    clear hM2 M2
    refine g_if_eq 12 46 dMod_setting_12 rfl (fun h12 => ?_) (fun h12 => ?_)
    · exact absurd h12 hk
    · refine g_iload_n 15 dMod_setting_15 rfl ?_
      refine g_if_lt 16 46 dMod_setting_16 rfl (fun h16 => ?_) (fun h16 => ?_)
      · exact absurd (by rw [rg_hi hk]; simp [wi, h16]) hr
      · refine g_iload_n 19 dMod_setting_19 rfl ?_
        refine g_iload_n 20 dMod_setting_20 rfl ?_
        refine g_callS 21 [_] dMod_setting_21 cs_Mod_282 rfl rfl ⟨(Nat.le_of_ble_eq_true rfl), (Nat.le_of_ble_eq_true rfl)⟩ (Nat.le_of_ble_eq_true rfl) (cm_highest) (Nat.le_of_ble_eq_true rfl) (Nat.le_of_ble_eq_true rfl) ?_
        rintro _ M2 ⟨rfl, hM2⟩
        rw [hM2]
        clear hM2 M2
        refine g_icmp_gt 24 46 dMod_setting_24 rfl (fun h24 => ?_) (fun h24 => ?_)
        · exact absurd (by rw [rg_hi hk]; simp [wi, h24]) hr
        · refine g_aload_n 27 dMod_setting_27 rfl ?_
          refine g_getr 28 10 41 dMod_setting_28 fs_Mod_132 rfl hS.mod hS.R_open ?_
          refine g_iload_n 31 dMod_setting_31 rfl ?_
          refine g_ialdN 32 dMod_setting_32 hS.T_open (by omega) (by decide) ?_
          refine g_top (nI (c)) (hc) ?_
          refine g_bipush 33 (nI 8) dMod_setting_33 rfl ?_
          refine g_icmp_geN 35 46 dMod_setting_35 rfl (by omega) (by omega) (fun h35 => ?_) (fun h35 => ?_)
          · exact absurd h35 (by omega)
          · refine g_aload_n 38 dMod_setting_38 rfl ?_
            refine g_iload_n 39 dMod_setting_39 rfl ?_
            refine g_callV 40 [_] dMod_setting_40 cs_Mod_315 rfl (ci := 10) rfl (by decide) hS.mod rfl ⟨(Nat.le_of_ble_eq_true rfl), (Nat.le_of_ble_eq_true rfl)⟩ (Nat.le_of_ble_eq_true rfl) (ct_Mod_full hS he) (Nat.le_of_ble_eq_true rfl) (Nat.le_of_ble_eq_true rfl) ?_
            rintro _ M2 ⟨rfl, hM2⟩
            rw [hM2]
            clear hM2 M2
            refine g_if_eq 43 48 dMod_setting_43 rfl (fun h43 => ?_) (fun h43 => ?_)
            · refine g_aload_n 48 dMod_setting_48 rfl ?_
              refine g_getr 49 10 42 dMod_setting_49 fs_Mod_135 rfl hS.mod hS.R_openSetting ?_
              refine g_bipush 52 (nI 8) dMod_setting_52 rfl ?_
              refine g_iload_n 54 dMod_setting_54 rfl ?_
              refine g_imulN 55 dMod_setting_55 ?_
              refine g_aload_n 56 dMod_setting_56 rfl ?_
              refine g_getr 57 10 41 dMod_setting_57 fs_Mod_132 rfl hS.mod hS.R_open ?_
              refine g_iload_n 60 dMod_setting_60 rfl ?_
              refine g_ialdN 61 dMod_setting_61 hS.T_open (by omega) (by decide) ?_
              refine g_top (nI (c)) (hc) ?_
              refine g_iaddN 62 dMod_setting_62 ?_
              refine g_iload_n 63 dMod_setting_63 rfl ?_
              refine g_iastN 64 dMod_setting_64 hS.T_openSetting (by omega) (by decide) ?_
              refine g_aload_n 65 dMod_setting_65 rfl ?_
              refine g_getr 66 10 43 dMod_setting_66 fs_Mod_138 rfl hS.mod hS.R_openValue ?_
              refine g_bipush 69 (nI 8) dMod_setting_69 rfl ?_
              refine g_iload_n 71 dMod_setting_71 rfl ?_
              refine g_imulN 72 dMod_setting_72 ?_
              refine g_aload_n 73 dMod_setting_73 rfl ?_
              refine g_getr 74 10 41 dMod_setting_74 fs_Mod_132 rfl hS.mod hS.R_open ?_
              refine g_iload_n 77 dMod_setting_77 rfl ?_
              refine g_ialdN 78 dMod_setting_78 hS.T_open (by omega) (by decide) ?_
              refine g_top (nI (c)) (by simp [mI_setI, mI_setL, mI_setR, up2, hc]) ?_
              refine g_iaddN 79 dMod_setting_79 ?_
              refine g_iload_n 80 dMod_setting_80 rfl ?_
              refine g_iastN 81 dMod_setting_81 hS.T_openValue (by omega) (by decide) ?_
              refine g_aload_n 82 dMod_setting_82 rfl ?_
              refine g_getr 83 10 41 dMod_setting_83 fs_Mod_132 rfl hS.mod hS.R_open ?_
              refine g_iload_n 86 dMod_setting_86 rfl ?_
              refine g_aload_n 87 dMod_setting_87 rfl ?_
              refine g_getr 88 10 41 dMod_setting_88 fs_Mod_132 rfl hS.mod hS.R_open ?_
              refine g_iload_n 91 dMod_setting_91 rfl ?_
              refine g_ialdN 92 dMod_setting_92 hS.T_open (by omega) (by decide) ?_
              refine g_top (nI (c)) (by simp [mI_setI, mI_setL, mI_setR, up2, hc]) ?_
              refine g_iconst 93 (nI 1) dMod_setting_93 rfl ?_
              refine g_iaddN 94 dMod_setting_94 ?_
              refine g_iastN 95 dMod_setting_95 hS.T_open (by omega) (by decide) ?_
              refine g_aload_n 96 dMod_setting_96 rfl ?_
              refine g_iconst 97 (nI 1) dMod_setting_97 rfl ?_
              refine g_iload_n 98 dMod_setting_98 rfl ?_
              refine g_isubN 99 dMod_setting_99 (by omega) ?_
              refine g_iconst 100 4 dMod_setting_100 rfl ?_
              refine g_iconst 101 0 dMod_setting_101 rfl ?_
              refine g_iload_n 102 dMod_setting_102 rfl ?_
              refine g_iconst 103 0 dMod_setting_103 rfl ?_
              refine g_callV 104 [_, _, _, _, _] dMod_setting_104 cs_Mod_182 rfl (ci := 10) rfl (by decide) hS.mod rfl ⟨(Nat.le_of_ble_eq_true rfl), (Nat.le_of_ble_eq_true rfl)⟩ (Nat.le_of_ble_eq_true rfl) (ct_Mod_push (M := setRS M e c s v) (h := h) (c := n) hS (by omega) (by simp [setRS, mI_setI, up2]; exact q1) (by simp [setRS, mI_setI, up2]; exact q2) hh (by omega) (Or.inl rfl)) (Nat.le_of_ble_eq_true rfl) (Nat.le_of_ble_eq_true rfl) ?_
              rintro _ _ ⟨rfl, rfl⟩
              refine g_istore 107 dMod_setting_107 (by decide) rfl ?_
              refine g_aload_n 109 dMod_setting_109 rfl ?_
              refine g_getr 110 10 7 dMod_setting_110 fs_Mod_32 rfl hS.mod hS.R_settings ?_
              refine g_iload 113 dMod_setting_113 rfl ?_
              refine g_iload_n 115 dMod_setting_115 rfl ?_
              refine g_iastN 116 dMod_setting_116 hS.T_settings (by omega) (by decide) ?_
              refine g_iconst 117 1 dMod_setting_117 rfl ?_
              exact g_zret 118 dMod_setting_118 rfl (by decide) ⟨rfl, rfl⟩
            · exact absurd (if_pos (by rw [q2]; exact nI_lt hn (by decide))) h43

set_option maxRecDepth 100000 in
set_option maxHeartbeats 4000000 in
theorem cm_giveBack_0 {X : mX} {l : Launch} {M : mM} {e : Nat} (hS : Shp M) (he : e < 2) {x : Int32} (hx : x ≤ 0) : Ct X l uMod_giveBack (rk 1 26) [.ref 169, .int (nI e), .int x] M (fun r M' => r = none ∧ M' = M) := by
  refine Ct.of (by decide) (Nat.le_of_ble_eq_true rfl) ?_
  show G X l uMod_giveBack (rk 1 26) 0 0 M 0 [some (.ref 169), some (.int (nI e)), some (.int x)] [] _
  refine g_iload_n 0 dMod_giveBack_0 rfl ?_
  refine g_if_le 1 17 dMod_giveBack_1 rfl (fun h1 => ?_) (fun h1 => ?_)
  · exact g_vret 17 dMod_giveBack_17 rfl ⟨rfl, rfl⟩
  · exact absurd hx h1

set_option maxRecDepth 100000 in
set_option maxHeartbeats 4000000 in
theorem cm_giveBack {X : mX} {l : Launch} {M : mM} {e : Nat} (hS : Shp M) (he : e < 2) {x : Int32} (hx : ¬ x ≤ 0) {h n : Nat} (q1 : Rhead M (1 - e) = nI h) (q2 : Rcount M (1 - e) = nI n) (hh : h < 48) (hn : n < 48) : Ct X l uMod_giveBack (rk 1 26) [.ref 169, .int (nI e), .int x] M (fun r M' => r = none ∧ M' = pushM M (1 - e) h n 8 0 x 0) := by
  refine Ct.of (by decide) (Nat.le_of_ble_eq_true rfl) ?_
  show G X l uMod_giveBack (rk 1 26) 0 0 M 0 [some (.ref 169), some (.int (nI e)), some (.int x)] [] _
  refine g_iload_n 0 dMod_giveBack_0 rfl ?_
  refine g_if_le 1 17 dMod_giveBack_1 rfl (fun h1 => ?_) (fun h1 => ?_)
  · exact absurd h1 hx
  · refine g_aload_n 4 dMod_giveBack_4 rfl ?_
    refine g_iconst 5 (nI 1) dMod_giveBack_5 rfl ?_
    refine g_iload_n 6 dMod_giveBack_6 rfl ?_
    refine g_isubN 7 dMod_giveBack_7 (by omega) ?_
    refine g_bipush 8 8 dMod_giveBack_8 rfl ?_
    refine g_iconst 10 0 dMod_giveBack_10 rfl ?_
    refine g_iload_n 11 dMod_giveBack_11 rfl ?_
    refine g_iconst 12 0 dMod_giveBack_12 rfl ?_
    refine g_callV 13 [_, _, _, _, _] dMod_giveBack_13 cs_Mod_182 rfl (ci := 10) rfl (by decide) hS.mod rfl ⟨(Nat.le_of_ble_eq_true rfl), (Nat.le_of_ble_eq_true rfl)⟩ (Nat.le_of_ble_eq_true rfl) (ct_Mod_push (h := h) (c := n) hS (by omega) q1 q2 hh hn (Or.inl rfl)) (Nat.le_of_ble_eq_true rfl) (Nat.le_of_ble_eq_true rfl) ?_
    rintro _ _ ⟨rfl, rfl⟩
    refine g_pop 16 dMod_giveBack_16 rfl ?_
    exact g_vret 17 dMod_giveBack_17 rfl ⟨rfl, rfl⟩

set_option maxRecDepth 100000 in
set_option maxHeartbeats 4000000 in
theorem cm_linkError {X : mX} {l : Launch} {M : mM} {e : Nat} (hS : Shp M) (he : e < 2) {x : Int32} {h n : Nat} (q1 : Rhead M (1 - e) = nI h) (q2 : Rcount M (1 - e) = nI n) (hh : h < 48) (hn : n < 48) : Ct X l uMod_linkError (rk 1 26) [.ref 169, .int (nI e), .int x] M (fun r M' => r = some (.int (100 + x)) ∧ M' = setI (pushM M (1 - e) h n 7 0 x 0) 170 e (100 + x)) := by
  refine Ct.of (by decide) (Nat.le_of_ble_eq_true rfl) ?_
  show G X l uMod_linkError (rk 1 26) 0 0 M 0 [some (.ref 169), some (.int (nI e)), some (.int x)] [] _
  refine g_aload_n 0 dMod_linkError_0 rfl ?_
  refine g_iconst 1 (nI 1) dMod_linkError_1 rfl ?_
  refine g_iload_n 2 dMod_linkError_2 rfl ?_
  refine g_isubN 3 dMod_linkError_3 (by omega) ?_
  refine g_bipush 4 7 dMod_linkError_4 rfl ?_
  refine g_iconst 6 0 dMod_linkError_6 rfl ?_
  refine g_iload_n 7 dMod_linkError_7 rfl ?_
  refine g_iconst 8 0 dMod_linkError_8 rfl ?_
  refine g_callV 9 [_, _, _, _, _] dMod_linkError_9 cs_Mod_182 rfl (ci := 10) rfl (by decide) hS.mod rfl ⟨(Nat.le_of_ble_eq_true rfl), (Nat.le_of_ble_eq_true rfl)⟩ (Nat.le_of_ble_eq_true rfl) (ct_Mod_push (h := h) (c := n) hS (by omega) q1 q2 hh hn (Or.inl rfl)) (Nat.le_of_ble_eq_true rfl) (Nat.le_of_ble_eq_true rfl) ?_
  rintro _ _ ⟨rfl, rfl⟩
  refine g_pop 12 dMod_linkError_12 rfl ?_
  refine g_aload_n 13 dMod_linkError_13 rfl ?_
  refine g_getr 14 10 0 dMod_linkError_14 fs_Mod_7 rfl hS.mod hS.R_downs ?_
  refine g_iload_n 17 dMod_linkError_17 rfl ?_
  refine g_bipush 18 100 dMod_linkError_18 rfl ?_
  refine g_iload_n 20 dMod_linkError_20 rfl ?_
  refine g_iadd 21 dMod_linkError_21 ?_
  refine g_iastN 22 dMod_linkError_22 hS.T_downs (by omega) (by decide) ?_
  refine g_bipush 23 100 dMod_linkError_23 rfl ?_
  refine g_iload_n 25 dMod_linkError_25 rfl ?_
  refine g_iadd 26 dMod_linkError_26 ?_
  exact g_iret 27 dMod_linkError_27 rfl ⟨rfl, rfl⟩

def stepM (M : mM) (sl a : Nat) (kd ix na va : Int32) : mM := setI (setI (setI (setI (setI M 179 (8 * sl + a) kd) 180 (8 * sl + a) ix) 181 (8 * sl + a) na) 182 (8 * sl + a) va) 175 sl (nI (a + 1))
set_option maxRecDepth 100000 in
set_option maxHeartbeats 4000000 in
theorem cm_step {X : mX} {l : Launch} {M : mM} {sl a : Nat} {kd ix na va : Int32} (hS : Shp M) (hs : sl < 96) (ha : Ramounts M sl = nI a) (ha8 : a < 8) : Ct X l uMod_step (rk 0 0) [.ref 169, .int (nI sl), .int kd, .int ix, .int na, .int va] M (fun r M' => r = none ∧ M' = stepM M sl a kd ix na va) := by
  refine Ct.of (by decide) (Nat.le_of_ble_eq_true rfl) ?_
  show G X l uMod_step (rk 0 0) 0 0 M 0 [some (.ref 169), some (.int (nI sl)), some (.int kd), some (.int ix), some (.int na), some (.int va), none] [] _
  refine g_bipush 0 (nI 8) dMod_step_0 rfl ?_
  refine g_iload_n 2 dMod_step_2 rfl ?_
  refine g_imulN 3 dMod_step_3 ?_
  refine g_aload_n 4 dMod_step_4 rfl ?_
  refine g_getr 5 10 5 dMod_step_5 fs_Mod_25 rfl hS.mod hS.R_amounts ?_
  refine g_iload_n 8 dMod_step_8 rfl ?_
  refine g_ialdN 9 dMod_step_9 hS.T_amounts (by omega) (by decide) ?_
  refine g_top (nI (a)) (ha) ?_
  refine g_iaddN 10 dMod_step_10 ?_
  refine g_istore 11 dMod_step_11 (by decide) rfl ?_
  refine g_aload_n 13 dMod_step_13 rfl ?_
  refine g_getr 14 10 9 dMod_step_14 fs_Mod_39 rfl hS.mod hS.R_stepKind ?_
  refine g_iload 17 dMod_step_17 rfl ?_
  refine g_iload_n 19 dMod_step_19 rfl ?_
  refine g_iastN 20 dMod_step_20 hS.T_stepKind (by omega) (by decide) ?_
  refine g_aload_n 21 dMod_step_21 rfl ?_
  refine g_getr 22 10 10 dMod_step_22 fs_Mod_42 rfl hS.mod hS.R_stepIndex ?_
  refine g_iload 25 dMod_step_25 rfl ?_
  refine g_iload_n 27 dMod_step_27 rfl ?_
  refine g_iastN 28 dMod_step_28 hS.T_stepIndex (by omega) (by decide) ?_
  refine g_aload_n 29 dMod_step_29 rfl ?_
  refine g_getr 30 10 11 dMod_step_30 fs_Mod_45 rfl hS.mod hS.R_stepName ?_
  refine g_iload 33 dMod_step_33 rfl ?_
  refine g_iload 35 dMod_step_35 rfl ?_
  refine g_iastN 37 dMod_step_37 hS.T_stepName (by omega) (by decide) ?_
  refine g_aload_n 38 dMod_step_38 rfl ?_
  refine g_getr 39 10 12 dMod_step_39 fs_Mod_48 rfl hS.mod hS.R_stepValue ?_
  refine g_iload 42 dMod_step_42 rfl ?_
  refine g_iload 44 dMod_step_44 rfl ?_
  refine g_iastN 46 dMod_step_46 hS.T_stepValue (by omega) (by decide) ?_
  refine g_aload_n 47 dMod_step_47 rfl ?_
  refine g_getr 48 10 5 dMod_step_48 fs_Mod_25 rfl hS.mod hS.R_amounts ?_
  refine g_iload_n 51 dMod_step_51 rfl ?_
  refine g_aload_n 52 dMod_step_52 rfl ?_
  refine g_getr 53 10 5 dMod_step_53 fs_Mod_25 rfl hS.mod hS.R_amounts ?_
  refine g_iload_n 56 dMod_step_56 rfl ?_
  refine g_ialdN 57 dMod_step_57 hS.T_amounts (by omega) (by decide) ?_
  refine g_top (nI (a)) (by simp [mI_setI, mI_setL, mI_setR, up2, ha]) ?_
  refine g_iconst 58 (nI 1) dMod_step_58 rfl ?_
  refine g_iaddN 59 dMod_step_59 ?_
  refine g_iastN 60 dMod_step_60 hS.T_amounts (by omega) (by decide) ?_
  exact g_vret 61 dMod_step_61 rfl ⟨rfl, rfl⟩

set_option maxRecDepth 100000 in
set_option maxHeartbeats 4000000 in
theorem cm_inject_3 {X : mX} {l : Launch} {M : mM} {e : Nat} (hS : Shp M) (he : e < 2) {s x z : Int32} {h n : Nat} (q1 : Rhead M e = nI h) (q2 : Rcount M e = nI n) (hh : h < 48) (hn : n < 30) : Ct X l uMod_inject (rk 1 26) [.ref 169, .int (nI e), .int 3, .int s, .int x, .int z] M (fun r M' => r = some (.int 1) ∧ M' = setI (pushM M e h n 3 s x 0) 177 (48 * e + (h + n) % 48) 0) := by
  refine Ct.of (by decide) (Nat.le_of_ble_eq_true rfl) ?_
  show G X l uMod_inject (rk 1 26) 0 0 M 0 [some (.ref 169), some (.int (nI e)), some (.int 3), some (.int s), some (.int x), some (.int z), none, none, none, none] [] _
  refine g_iload_n 0 dMod_inject_0 rfl ?_
  refine g_if_eq 1 31 dMod_inject_1 rfl (fun h1 => ?_) (fun h1 => ?_)
  · exact absurd h1 (by decide)
  · refine g_iload_n 4 dMod_inject_4 rfl ?_
    refine g_iconst 5 1 dMod_inject_5 rfl ?_
    refine g_icmp_eq 6 31 dMod_inject_6 rfl (fun h6 => ?_) (fun h6 => ?_)
    · exact absurd h6 (by decide)
    · refine g_iload_n 9 dMod_inject_9 rfl ?_
      refine g_iconst 10 3 dMod_inject_10 rfl ?_
      refine g_icmp_eq 11 31 dMod_inject_11 rfl (fun h11 => ?_) (fun h11 => ?_)
      · refine g_iconst 31 1 dMod_inject_31 rfl ?_
        refine g_goto 32 36 dMod_inject_32 rfl ?_
        refine g_istore 36 dMod_inject_36 (by decide) rfl ?_
        refine g_iload_n 38 dMod_inject_38 rfl ?_
        refine g_callS 39 [_] dMod_inject_39 cs_Mod_171 rfl rfl ⟨(Nat.le_of_ble_eq_true rfl), (Nat.le_of_ble_eq_true rfl)⟩ (Nat.le_of_ble_eq_true rfl) (ct_isEnd_y he) (Nat.le_of_ble_eq_true rfl) (Nat.le_of_ble_eq_true rfl) ?_
        rintro _ M2 ⟨rfl, hM2⟩
        rw [hM2]
        clear hM2 M2
        refine g_if_eq 42 83 dMod_inject_42 rfl (fun h42 => ?_) (fun h42 => ?_)
        · exact absurd h42 (by decide)
        · refine g_iload 45 dMod_inject_45 rfl ?_
          refine g_if_eq 47 83 dMod_inject_47 rfl (fun h47 => ?_) (fun h47 => ?_)
          · exact absurd h47 (by decide)
          · refine g_iload_n 50 dMod_inject_50 rfl ?_
            refine g_if_eq 51 60 dMod_inject_51 rfl (fun h51 => ?_) (fun h51 => ?_)
            · exact absurd h51 (by decide)
            · refine g_iload_n 54 dMod_inject_54 rfl ?_
              refine g_bipush 55 7 dMod_inject_55 rfl ?_
              refine g_icmp_ne 57 72 dMod_inject_57 rfl (fun h57 => ?_) (fun h57 => ?_)
              · refine g_aload_n 72 dMod_inject_72 rfl ?_
                refine g_getr 73 10 2 dMod_inject_73 fs_Mod_16 rfl hS.mod hS.R_count ?_
                refine g_iload_n 76 dMod_inject_76 rfl ?_
                refine g_ialdN 77 dMod_inject_77 hS.T_count (by omega) (by decide) ?_
                refine g_bipush 78 30 dMod_inject_78 rfl ?_
                refine g_icmp_lt 80 85 dMod_inject_80 rfl (fun h80 => ?_) (fun h80 => ?_)
                · refine g_iload_n 85 dMod_inject_85 rfl ?_
                  refine g_iconst 86 4 dMod_inject_86 rfl ?_
                  refine g_icmp_eq 87 96 dMod_inject_87 rfl (fun h87 => ?_) (fun h87 => ?_)
                  · exact absurd h87 (by decide)
                  · refine g_iload_n 90 dMod_inject_90 rfl ?_
                    refine g_bipush 91 7 dMod_inject_91 rfl ?_
                    refine g_icmp_ne 93 100 dMod_inject_93 rfl (fun h93 => ?_) (fun h93 => ?_)
                    · refine g_iconst 100 0 dMod_inject_100 rfl ?_
                      refine g_istore 101 dMod_inject_101 (by decide) rfl ?_
                      refine g_iload_n 103 dMod_inject_103 rfl ?_
                      refine g_iconst 104 4 dMod_inject_104 rfl ?_
                      refine g_icmp_ne 105 117 dMod_inject_105 rfl (fun h105 => ?_) (fun h105 => ?_)
                      · refine g_iconst 117 0 dMod_inject_117 rfl ?_
                        refine g_istore 118 dMod_inject_118 (by decide) rfl ?_
                        refine g_aload_n 120 dMod_inject_120 rfl ?_
                        refine g_iload_n 121 dMod_inject_121 rfl ?_
                        refine g_iload_n 122 dMod_inject_122 rfl ?_
                        refine g_iload 123 dMod_inject_123 rfl ?_
                        refine g_if_eq 125 132 dMod_inject_125 rfl (fun h125 => ?_) (fun h125 => ?_)
                        · refine g_iload_n 132 dMod_inject_132 rfl ?_
                          refine g_iload_n 133 dMod_inject_133 rfl ?_
                          refine g_iconst 134 1 dMod_inject_134 rfl ?_
                          refine g_icmp_eq 135 143 dMod_inject_135 rfl (fun h135 => ?_) (fun h135 => ?_)
                          · exact absurd h135 (by decide)
                          · refine g_iload 138 dMod_inject_138 rfl ?_
                            refine g_if_eq 140 147 dMod_inject_140 rfl (fun h140 => ?_) (fun h140 => ?_)
                            · refine g_iload 147 dMod_inject_147 rfl ?_
                              refine g_iload_n 149 dMod_inject_149 rfl ?_
                              refine g_iconst 150 2 dMod_inject_150 rfl ?_
                              refine g_icmp_ge 151 159 dMod_inject_151 rfl (fun h151 => ?_) (fun h151 => ?_)
                              · refine g_iload 159 dMod_inject_159 rfl ?_
                                refine g_if_eq 161 168 dMod_inject_161 rfl (fun h161 => ?_) (fun h161 => ?_)
                                · refine g_iconst 168 0 dMod_inject_168 rfl ?_
                                  refine g_callV 169 [_, _, _, _, _] dMod_inject_169 cs_Mod_182 rfl (ci := 10) rfl (by decide) hS.mod rfl ⟨(Nat.le_of_ble_eq_true rfl), (Nat.le_of_ble_eq_true rfl)⟩ (Nat.le_of_ble_eq_true rfl) (ct_Mod_push (h := h) (c := n) hS he q1 q2 hh (by omega) (Or.inl rfl)) (Nat.le_of_ble_eq_true rfl) (Nat.le_of_ble_eq_true rfl) ?_
                                  rintro _ _ ⟨rfl, rfl⟩
                                  refine g_istore 172 dMod_inject_172 (by decide) rfl ?_
                                  refine g_aload_n 174 dMod_inject_174 rfl ?_
                                  refine g_getr 175 10 7 dMod_inject_175 fs_Mod_32 rfl hS.mod hS.R_settings ?_
                                  refine g_iload 178 dMod_inject_178 rfl ?_
                                  refine g_iload_n 180 dMod_inject_180 rfl ?_
                                  refine g_iconst 181 4 dMod_inject_181 rfl ?_
                                  refine g_icmp_ne 182 194 dMod_inject_182 rfl (fun h182 => ?_) (fun h182 => ?_)
                                  · refine g_iconst 194 0 dMod_inject_194 rfl ?_
                                    refine g_iastN 195 dMod_inject_195 hS.T_settings (by omega) (by decide) ?_
                                    refine g_iload_n 196 dMod_inject_196 rfl ?_
                                    refine g_iconst 197 1 dMod_inject_197 rfl ?_
                                    refine g_icmp_ne 198 212 dMod_inject_198 rfl (fun h198 => ?_) (fun h198 => ?_)
                                    · refine g_iconst 212 1 dMod_inject_212 rfl ?_
                                      exact g_zret 213 dMod_inject_213 rfl (by decide) ⟨rfl, rfl⟩
                                    · exact absurd h198 (by decide)
                                  · exact absurd h182 (by decide)
                                · exact absurd rfl h161
                              · exact absurd (by decide) h151
                            · exact absurd rfl h140
                        · exact absurd rfl h125
                      · exact absurd h105 (by decide)
                    · exact absurd h93 (by decide)
                · exact absurd (by rw [show mI M 172 e = nI n from q2]; exact nI_lt hn (by decide)) h80
              · exact absurd h57 (by decide)
      · exact absurd (by decide) h11

set_option maxRecDepth 100000 in
set_option maxHeartbeats 4000000 in
theorem cm_inject_8 {X : mX} {l : Launch} {M : mM} {e : Nat} (hS : Shp M) (he : e < 2) {s x z : Int32} {h n : Nat} (q1 : Rhead M e = nI h) (q2 : Rcount M e = nI n) (hh : h < 48) (hn : n < 30) : Ct X l uMod_inject (rk 1 26) [.ref 169, .int (nI e), .int 8, .int s, .int x, .int z] M (fun r M' => r = some (.int 1) ∧ M' = setI (pushM M e h n 8 s x 0) 177 (48 * e + (h + n) % 48) 0) := by
  refine Ct.of (by decide) (Nat.le_of_ble_eq_true rfl) ?_
  show G X l uMod_inject (rk 1 26) 0 0 M 0 [some (.ref 169), some (.int (nI e)), some (.int 8), some (.int s), some (.int x), some (.int z), none, none, none, none] [] _
  refine g_iload_n 0 dMod_inject_0 rfl ?_
  refine g_if_eq 1 31 dMod_inject_1 rfl (fun h1 => ?_) (fun h1 => ?_)
  · exact absurd h1 (by decide)
  · refine g_iload_n 4 dMod_inject_4 rfl ?_
    refine g_iconst 5 1 dMod_inject_5 rfl ?_
    refine g_icmp_eq 6 31 dMod_inject_6 rfl (fun h6 => ?_) (fun h6 => ?_)
    · exact absurd h6 (by decide)
    · refine g_iload_n 9 dMod_inject_9 rfl ?_
      refine g_iconst 10 3 dMod_inject_10 rfl ?_
      refine g_icmp_eq 11 31 dMod_inject_11 rfl (fun h11 => ?_) (fun h11 => ?_)
      · exact absurd h11 (by decide)
      · refine g_iload_n 14 dMod_inject_14 rfl ?_
        refine g_iconst 15 4 dMod_inject_15 rfl ?_
        refine g_icmp_eq 16 31 dMod_inject_16 rfl (fun h16 => ?_) (fun h16 => ?_)
        · exact absurd h16 (by decide)
        · refine g_iload_n 19 dMod_inject_19 rfl ?_
          refine g_bipush 20 7 dMod_inject_20 rfl ?_
          refine g_icmp_eq 22 31 dMod_inject_22 rfl (fun h22 => ?_) (fun h22 => ?_)
          · exact absurd h22 (by decide)
          · refine g_iload_n 25 dMod_inject_25 rfl ?_
            refine g_bipush 26 8 dMod_inject_26 rfl ?_
            refine g_icmp_ne 28 35 dMod_inject_28 rfl (fun h28 => ?_) (fun h28 => ?_)
            · exact absurd (by decide) h28
            · refine g_iconst 31 1 dMod_inject_31 rfl ?_
              refine g_goto 32 36 dMod_inject_32 rfl ?_
              refine g_istore 36 dMod_inject_36 (by decide) rfl ?_
              refine g_iload_n 38 dMod_inject_38 rfl ?_
              refine g_callS 39 [_] dMod_inject_39 cs_Mod_171 rfl rfl ⟨(Nat.le_of_ble_eq_true rfl), (Nat.le_of_ble_eq_true rfl)⟩ (Nat.le_of_ble_eq_true rfl) (ct_isEnd_y he) (Nat.le_of_ble_eq_true rfl) (Nat.le_of_ble_eq_true rfl) ?_
              rintro _ M2 ⟨rfl, hM2⟩
              rw [hM2]
              clear hM2 M2
              refine g_if_eq 42 83 dMod_inject_42 rfl (fun h42 => ?_) (fun h42 => ?_)
              · exact absurd h42 (by decide)
              · refine g_iload 45 dMod_inject_45 rfl ?_
                refine g_if_eq 47 83 dMod_inject_47 rfl (fun h47 => ?_) (fun h47 => ?_)
                · exact absurd h47 (by decide)
                · refine g_iload_n 50 dMod_inject_50 rfl ?_
                  refine g_if_eq 51 60 dMod_inject_51 rfl (fun h51 => ?_) (fun h51 => ?_)
                  · exact absurd h51 (by decide)
                  · refine g_iload_n 54 dMod_inject_54 rfl ?_
                    refine g_bipush 55 7 dMod_inject_55 rfl ?_
                    refine g_icmp_ne 57 72 dMod_inject_57 rfl (fun h57 => ?_) (fun h57 => ?_)
                    · refine g_aload_n 72 dMod_inject_72 rfl ?_
                      refine g_getr 73 10 2 dMod_inject_73 fs_Mod_16 rfl hS.mod hS.R_count ?_
                      refine g_iload_n 76 dMod_inject_76 rfl ?_
                      refine g_ialdN 77 dMod_inject_77 hS.T_count (by omega) (by decide) ?_
                      refine g_bipush 78 30 dMod_inject_78 rfl ?_
                      refine g_icmp_lt 80 85 dMod_inject_80 rfl (fun h80 => ?_) (fun h80 => ?_)
                      · refine g_iload_n 85 dMod_inject_85 rfl ?_
                        refine g_iconst 86 4 dMod_inject_86 rfl ?_
                        refine g_icmp_eq 87 96 dMod_inject_87 rfl (fun h87 => ?_) (fun h87 => ?_)
                        · exact absurd h87 (by decide)
                        · refine g_iload_n 90 dMod_inject_90 rfl ?_
                          refine g_bipush 91 7 dMod_inject_91 rfl ?_
                          refine g_icmp_ne 93 100 dMod_inject_93 rfl (fun h93 => ?_) (fun h93 => ?_)
                          · refine g_iconst 100 0 dMod_inject_100 rfl ?_
                            refine g_istore 101 dMod_inject_101 (by decide) rfl ?_
                            refine g_iload_n 103 dMod_inject_103 rfl ?_
                            refine g_iconst 104 4 dMod_inject_104 rfl ?_
                            refine g_icmp_ne 105 117 dMod_inject_105 rfl (fun h105 => ?_) (fun h105 => ?_)
                            · refine g_iconst 117 0 dMod_inject_117 rfl ?_
                              refine g_istore 118 dMod_inject_118 (by decide) rfl ?_
                              refine g_aload_n 120 dMod_inject_120 rfl ?_
                              refine g_iload_n 121 dMod_inject_121 rfl ?_
                              refine g_iload_n 122 dMod_inject_122 rfl ?_
                              refine g_iload 123 dMod_inject_123 rfl ?_
                              refine g_if_eq 125 132 dMod_inject_125 rfl (fun h125 => ?_) (fun h125 => ?_)
                              · refine g_iload_n 132 dMod_inject_132 rfl ?_
                                refine g_iload_n 133 dMod_inject_133 rfl ?_
                                refine g_iconst 134 1 dMod_inject_134 rfl ?_
                                refine g_icmp_eq 135 143 dMod_inject_135 rfl (fun h135 => ?_) (fun h135 => ?_)
                                · exact absurd h135 (by decide)
                                · refine g_iload 138 dMod_inject_138 rfl ?_
                                  refine g_if_eq 140 147 dMod_inject_140 rfl (fun h140 => ?_) (fun h140 => ?_)
                                  · refine g_iload 147 dMod_inject_147 rfl ?_
                                    refine g_iload_n 149 dMod_inject_149 rfl ?_
                                    refine g_iconst 150 2 dMod_inject_150 rfl ?_
                                    refine g_icmp_ge 151 159 dMod_inject_151 rfl (fun h151 => ?_) (fun h151 => ?_)
                                    · refine g_iload 159 dMod_inject_159 rfl ?_
                                      refine g_if_eq 161 168 dMod_inject_161 rfl (fun h161 => ?_) (fun h161 => ?_)
                                      · refine g_iconst 168 0 dMod_inject_168 rfl ?_
                                        refine g_callV 169 [_, _, _, _, _] dMod_inject_169 cs_Mod_182 rfl (ci := 10) rfl (by decide) hS.mod rfl ⟨(Nat.le_of_ble_eq_true rfl), (Nat.le_of_ble_eq_true rfl)⟩ (Nat.le_of_ble_eq_true rfl) (ct_Mod_push (h := h) (c := n) hS he q1 q2 hh (by omega) (Or.inl rfl)) (Nat.le_of_ble_eq_true rfl) (Nat.le_of_ble_eq_true rfl) ?_
                                        rintro _ _ ⟨rfl, rfl⟩
                                        refine g_istore 172 dMod_inject_172 (by decide) rfl ?_
                                        refine g_aload_n 174 dMod_inject_174 rfl ?_
                                        refine g_getr 175 10 7 dMod_inject_175 fs_Mod_32 rfl hS.mod hS.R_settings ?_
                                        refine g_iload 178 dMod_inject_178 rfl ?_
                                        refine g_iload_n 180 dMod_inject_180 rfl ?_
                                        refine g_iconst 181 4 dMod_inject_181 rfl ?_
                                        refine g_icmp_ne 182 194 dMod_inject_182 rfl (fun h182 => ?_) (fun h182 => ?_)
                                        · refine g_iconst 194 0 dMod_inject_194 rfl ?_
                                          refine g_iastN 195 dMod_inject_195 hS.T_settings (by omega) (by decide) ?_
                                          refine g_iload_n 196 dMod_inject_196 rfl ?_
                                          refine g_iconst 197 1 dMod_inject_197 rfl ?_
                                          refine g_icmp_ne 198 212 dMod_inject_198 rfl (fun h198 => ?_) (fun h198 => ?_)
                                          · refine g_iconst 212 1 dMod_inject_212 rfl ?_
                                            exact g_zret 213 dMod_inject_213 rfl (by decide) ⟨rfl, rfl⟩
                                          · exact absurd h198 (by decide)
                                        · exact absurd h182 (by decide)
                                      · exact absurd rfl h161
                                    · exact absurd (by decide) h151
                                  · exact absurd rfl h140
                              · exact absurd rfl h125
                            · exact absurd h105 (by decide)
                          · exact absurd h93 (by decide)
                      · exact absurd (by rw [show mI M 172 e = nI n from q2]; exact nI_lt hn (by decide)) h80
                    · exact absurd h57 (by decide)

set_option maxRecDepth 100000 in
set_option maxHeartbeats 4000000 in
theorem cm_inject_7 {X : mX} {l : Launch} {M : mM} {e : Nat} (hS : Shp M) (he : e < 2) {s x z : Int32} (hx0 : ¬ x < 0) (hx1 : ¬ 15 < x) {h n : Nat} (q1 : Rhead M e = nI h) (q2 : Rcount M e = nI n) (hh : h < 48) (hn : n < 30) : Ct X l uMod_inject (rk 1 26) [.ref 169, .int (nI e), .int 7, .int s, .int x, .int z] M (fun r M' => r = some (.int 1) ∧ M' = setI (pushM M e h n 7 0 x 0) 177 (48 * e + (h + n) % 48) 0) := by
  refine Ct.of (by decide) (Nat.le_of_ble_eq_true rfl) ?_
  show G X l uMod_inject (rk 1 26) 0 0 M 0 [some (.ref 169), some (.int (nI e)), some (.int 7), some (.int s), some (.int x), some (.int z), none, none, none, none] [] _
  refine g_iload_n 0 dMod_inject_0 rfl ?_
  refine g_if_eq 1 31 dMod_inject_1 rfl (fun h1 => ?_) (fun h1 => ?_)
  · exact absurd h1 (by decide)
  · refine g_iload_n 4 dMod_inject_4 rfl ?_
    refine g_iconst 5 1 dMod_inject_5 rfl ?_
    refine g_icmp_eq 6 31 dMod_inject_6 rfl (fun h6 => ?_) (fun h6 => ?_)
    · exact absurd h6 (by decide)
    · refine g_iload_n 9 dMod_inject_9 rfl ?_
      refine g_iconst 10 3 dMod_inject_10 rfl ?_
      refine g_icmp_eq 11 31 dMod_inject_11 rfl (fun h11 => ?_) (fun h11 => ?_)
      · exact absurd h11 (by decide)
      · refine g_iload_n 14 dMod_inject_14 rfl ?_
        refine g_iconst 15 4 dMod_inject_15 rfl ?_
        refine g_icmp_eq 16 31 dMod_inject_16 rfl (fun h16 => ?_) (fun h16 => ?_)
        · exact absurd h16 (by decide)
        · refine g_iload_n 19 dMod_inject_19 rfl ?_
          refine g_bipush 20 7 dMod_inject_20 rfl ?_
          refine g_icmp_eq 22 31 dMod_inject_22 rfl (fun h22 => ?_) (fun h22 => ?_)
          · refine g_iconst 31 1 dMod_inject_31 rfl ?_
            refine g_goto 32 36 dMod_inject_32 rfl ?_
            refine g_istore 36 dMod_inject_36 (by decide) rfl ?_
            refine g_iload_n 38 dMod_inject_38 rfl ?_
            refine g_callS 39 [_] dMod_inject_39 cs_Mod_171 rfl rfl ⟨(Nat.le_of_ble_eq_true rfl), (Nat.le_of_ble_eq_true rfl)⟩ (Nat.le_of_ble_eq_true rfl) (ct_isEnd_y he) (Nat.le_of_ble_eq_true rfl) (Nat.le_of_ble_eq_true rfl) ?_
            rintro _ M2 ⟨rfl, hM2⟩
            rw [hM2]
            clear hM2 M2
            refine g_if_eq 42 83 dMod_inject_42 rfl (fun h42 => ?_) (fun h42 => ?_)
            · exact absurd h42 (by decide)
            · refine g_iload 45 dMod_inject_45 rfl ?_
              refine g_if_eq 47 83 dMod_inject_47 rfl (fun h47 => ?_) (fun h47 => ?_)
              · exact absurd h47 (by decide)
              · refine g_iload_n 50 dMod_inject_50 rfl ?_
                refine g_if_eq 51 60 dMod_inject_51 rfl (fun h51 => ?_) (fun h51 => ?_)
                · exact absurd h51 (by decide)
                · refine g_iload_n 54 dMod_inject_54 rfl ?_
                  refine g_bipush 55 7 dMod_inject_55 rfl ?_
                  refine g_icmp_ne 57 72 dMod_inject_57 rfl (fun h57 => ?_) (fun h57 => ?_)
                  · exact absurd (by decide) h57
                  · refine g_iload 60 dMod_inject_60 rfl ?_
                    refine g_if_lt 62 83 dMod_inject_62 rfl (fun h62 => ?_) (fun h62 => ?_)
                    · exact absurd h62 hx0
                    · refine g_iload 65 dMod_inject_65 rfl ?_
                      refine g_bipush 67 15 dMod_inject_67 rfl ?_
                      refine g_icmp_gt 69 83 dMod_inject_69 rfl (fun h69 => ?_) (fun h69 => ?_)
                      · exact absurd h69 hx1
                      · refine g_aload_n 72 dMod_inject_72 rfl ?_
                        refine g_getr 73 10 2 dMod_inject_73 fs_Mod_16 rfl hS.mod hS.R_count ?_
                        refine g_iload_n 76 dMod_inject_76 rfl ?_
                        refine g_ialdN 77 dMod_inject_77 hS.T_count (by omega) (by decide) ?_
                        refine g_bipush 78 30 dMod_inject_78 rfl ?_
                        refine g_icmp_lt 80 85 dMod_inject_80 rfl (fun h80 => ?_) (fun h80 => ?_)
                        · refine g_iload_n 85 dMod_inject_85 rfl ?_
                          refine g_iconst 86 4 dMod_inject_86 rfl ?_
                          refine g_icmp_eq 87 96 dMod_inject_87 rfl (fun h87 => ?_) (fun h87 => ?_)
                          · exact absurd h87 (by decide)
                          · refine g_iload_n 90 dMod_inject_90 rfl ?_
                            refine g_bipush 91 7 dMod_inject_91 rfl ?_
                            refine g_icmp_ne 93 100 dMod_inject_93 rfl (fun h93 => ?_) (fun h93 => ?_)
                            · exact absurd (by decide) h93
                            · refine g_iconst 96 1 dMod_inject_96 rfl ?_
                              refine g_goto 97 101 dMod_inject_97 rfl ?_
                              refine g_istore 101 dMod_inject_101 (by decide) rfl ?_
                              refine g_iload_n 103 dMod_inject_103 rfl ?_
                              refine g_iconst 104 4 dMod_inject_104 rfl ?_
                              refine g_icmp_ne 105 117 dMod_inject_105 rfl (fun h105 => ?_) (fun h105 => ?_)
                              · refine g_iconst 117 0 dMod_inject_117 rfl ?_
                                refine g_istore 118 dMod_inject_118 (by decide) rfl ?_
                                refine g_aload_n 120 dMod_inject_120 rfl ?_
                                refine g_iload_n 121 dMod_inject_121 rfl ?_
                                refine g_iload_n 122 dMod_inject_122 rfl ?_
                                refine g_iload 123 dMod_inject_123 rfl ?_
                                refine g_if_eq 125 132 dMod_inject_125 rfl (fun h125 => ?_) (fun h125 => ?_)
                                · exact absurd h125 (by decide)
                                · refine g_iconst 128 0 dMod_inject_128 rfl ?_
                                  refine g_goto 129 133 dMod_inject_129 rfl ?_
                                  refine g_iload_n 133 dMod_inject_133 rfl ?_
                                  refine g_iconst 134 1 dMod_inject_134 rfl ?_
                                  refine g_icmp_eq 135 143 dMod_inject_135 rfl (fun h135 => ?_) (fun h135 => ?_)
                                  · exact absurd h135 (by decide)
                                  · refine g_iload 138 dMod_inject_138 rfl ?_
                                    refine g_if_eq 140 147 dMod_inject_140 rfl (fun h140 => ?_) (fun h140 => ?_)
                                    · refine g_iload 147 dMod_inject_147 rfl ?_
                                      refine g_iload_n 149 dMod_inject_149 rfl ?_
                                      refine g_iconst 150 2 dMod_inject_150 rfl ?_
                                      refine g_icmp_ge 151 159 dMod_inject_151 rfl (fun h151 => ?_) (fun h151 => ?_)
                                      · refine g_iload 159 dMod_inject_159 rfl ?_
                                        refine g_if_eq 161 168 dMod_inject_161 rfl (fun h161 => ?_) (fun h161 => ?_)
                                        · refine g_iconst 168 0 dMod_inject_168 rfl ?_
                                          refine g_callV 169 [_, _, _, _, _] dMod_inject_169 cs_Mod_182 rfl (ci := 10) rfl (by decide) hS.mod rfl ⟨(Nat.le_of_ble_eq_true rfl), (Nat.le_of_ble_eq_true rfl)⟩ (Nat.le_of_ble_eq_true rfl) (ct_Mod_push (h := h) (c := n) hS he q1 q2 hh (by omega) (Or.inl rfl)) (Nat.le_of_ble_eq_true rfl) (Nat.le_of_ble_eq_true rfl) ?_
                                          rintro _ _ ⟨rfl, rfl⟩
                                          refine g_istore 172 dMod_inject_172 (by decide) rfl ?_
                                          refine g_aload_n 174 dMod_inject_174 rfl ?_
                                          refine g_getr 175 10 7 dMod_inject_175 fs_Mod_32 rfl hS.mod hS.R_settings ?_
                                          refine g_iload 178 dMod_inject_178 rfl ?_
                                          refine g_iload_n 180 dMod_inject_180 rfl ?_
                                          refine g_iconst 181 4 dMod_inject_181 rfl ?_
                                          refine g_icmp_ne 182 194 dMod_inject_182 rfl (fun h182 => ?_) (fun h182 => ?_)
                                          · refine g_iconst 194 0 dMod_inject_194 rfl ?_
                                            refine g_iastN 195 dMod_inject_195 hS.T_settings (by omega) (by decide) ?_
                                            refine g_iload_n 196 dMod_inject_196 rfl ?_
                                            refine g_iconst 197 1 dMod_inject_197 rfl ?_
                                            refine g_icmp_ne 198 212 dMod_inject_198 rfl (fun h198 => ?_) (fun h198 => ?_)
                                            · refine g_iconst 212 1 dMod_inject_212 rfl ?_
                                              exact g_zret 213 dMod_inject_213 rfl (by decide) ⟨rfl, rfl⟩
                                            · exact absurd h198 (by decide)
                                          · exact absurd h182 (by decide)
                                        · exact absurd rfl h161
                                      · exact absurd (by decide) h151
                                    · exact absurd rfl h140
                              · exact absurd h105 (by decide)
                        · exact absurd (by rw [show mI M 172 e = nI n from q2]; exact nI_lt hn (by decide)) h80
          · exact absurd (by decide) h22

set_option maxRecDepth 100000 in
set_option maxHeartbeats 4000000 in
theorem cm_inject_4 {X : mX} {l : Launch} {M : mM} {e : Nat} (hS : Shp M) (he : e < 2) {s x : Int32} {h n : Nat} (q1 : Rhead M e = nI h) (q2 : Rcount M e = nI n) (hh : h < 48) (hn : n < 30) : Ct X l uMod_inject (rk 1 26) [.ref 169, .int (nI e), .int 4, .int s, .int x, .int 0] M (fun r M' => r = some (.int 1) ∧ M' = setI (pushM M e h n 4 0 x 0) 177 (48 * e + (h + n) % 48) s) := by
  refine Ct.of (by decide) (Nat.le_of_ble_eq_true rfl) ?_
  show G X l uMod_inject (rk 1 26) 0 0 M 0 [some (.ref 169), some (.int (nI e)), some (.int 4), some (.int s), some (.int x), some (.int 0), none, none, none, none] [] _
  refine g_iload_n 0 dMod_inject_0 rfl ?_
  refine g_if_eq 1 31 dMod_inject_1 rfl (fun h1 => ?_) (fun h1 => ?_)
  · exact absurd h1 (by decide)
  · refine g_iload_n 4 dMod_inject_4 rfl ?_
    refine g_iconst 5 1 dMod_inject_5 rfl ?_
    refine g_icmp_eq 6 31 dMod_inject_6 rfl (fun h6 => ?_) (fun h6 => ?_)
    · exact absurd h6 (by decide)
    · refine g_iload_n 9 dMod_inject_9 rfl ?_
      refine g_iconst 10 3 dMod_inject_10 rfl ?_
      refine g_icmp_eq 11 31 dMod_inject_11 rfl (fun h11 => ?_) (fun h11 => ?_)
      · exact absurd h11 (by decide)
      · refine g_iload_n 14 dMod_inject_14 rfl ?_
        refine g_iconst 15 4 dMod_inject_15 rfl ?_
        refine g_icmp_eq 16 31 dMod_inject_16 rfl (fun h16 => ?_) (fun h16 => ?_)
        · refine g_iconst 31 1 dMod_inject_31 rfl ?_
          refine g_goto 32 36 dMod_inject_32 rfl ?_
          refine g_istore 36 dMod_inject_36 (by decide) rfl ?_
          refine g_iload_n 38 dMod_inject_38 rfl ?_
          refine g_callS 39 [_] dMod_inject_39 cs_Mod_171 rfl rfl ⟨(Nat.le_of_ble_eq_true rfl), (Nat.le_of_ble_eq_true rfl)⟩ (Nat.le_of_ble_eq_true rfl) (ct_isEnd_y he) (Nat.le_of_ble_eq_true rfl) (Nat.le_of_ble_eq_true rfl) ?_
          rintro _ M2 ⟨rfl, hM2⟩
          rw [hM2]
          clear hM2 M2
          refine g_if_eq 42 83 dMod_inject_42 rfl (fun h42 => ?_) (fun h42 => ?_)
          · exact absurd h42 (by decide)
          · refine g_iload 45 dMod_inject_45 rfl ?_
            refine g_if_eq 47 83 dMod_inject_47 rfl (fun h47 => ?_) (fun h47 => ?_)
            · exact absurd h47 (by decide)
            · refine g_iload_n 50 dMod_inject_50 rfl ?_
              refine g_if_eq 51 60 dMod_inject_51 rfl (fun h51 => ?_) (fun h51 => ?_)
              · exact absurd h51 (by decide)
              · refine g_iload_n 54 dMod_inject_54 rfl ?_
                refine g_bipush 55 7 dMod_inject_55 rfl ?_
                refine g_icmp_ne 57 72 dMod_inject_57 rfl (fun h57 => ?_) (fun h57 => ?_)
                · refine g_aload_n 72 dMod_inject_72 rfl ?_
                  refine g_getr 73 10 2 dMod_inject_73 fs_Mod_16 rfl hS.mod hS.R_count ?_
                  refine g_iload_n 76 dMod_inject_76 rfl ?_
                  refine g_ialdN 77 dMod_inject_77 hS.T_count (by omega) (by decide) ?_
                  refine g_bipush 78 30 dMod_inject_78 rfl ?_
                  refine g_icmp_lt 80 85 dMod_inject_80 rfl (fun h80 => ?_) (fun h80 => ?_)
                  · refine g_iload_n 85 dMod_inject_85 rfl ?_
                    refine g_iconst 86 4 dMod_inject_86 rfl ?_
                    refine g_icmp_eq 87 96 dMod_inject_87 rfl (fun h87 => ?_) (fun h87 => ?_)
                    · refine g_iconst 96 1 dMod_inject_96 rfl ?_
                      refine g_goto 97 101 dMod_inject_97 rfl ?_
                      refine g_istore 101 dMod_inject_101 (by decide) rfl ?_
                      refine g_iload_n 103 dMod_inject_103 rfl ?_
                      refine g_iconst 104 4 dMod_inject_104 rfl ?_
                      refine g_icmp_ne 105 117 dMod_inject_105 rfl (fun h105 => ?_) (fun h105 => ?_)
                      · exact absurd (by decide) h105
                      · refine g_iload 108 dMod_inject_108 rfl ?_
                        refine g_if_eq 110 117 dMod_inject_110 rfl (fun h110 => ?_) (fun h110 => ?_)
                        · refine g_iconst 117 0 dMod_inject_117 rfl ?_
                          refine g_istore 118 dMod_inject_118 (by decide) rfl ?_
                          refine g_aload_n 120 dMod_inject_120 rfl ?_
                          refine g_iload_n 121 dMod_inject_121 rfl ?_
                          refine g_iload_n 122 dMod_inject_122 rfl ?_
                          refine g_iload 123 dMod_inject_123 rfl ?_
                          refine g_if_eq 125 132 dMod_inject_125 rfl (fun h125 => ?_) (fun h125 => ?_)
                          · exact absurd h125 (by decide)
                          · refine g_iconst 128 0 dMod_inject_128 rfl ?_
                            refine g_goto 129 133 dMod_inject_129 rfl ?_
                            refine g_iload_n 133 dMod_inject_133 rfl ?_
                            refine g_iconst 134 1 dMod_inject_134 rfl ?_
                            refine g_icmp_eq 135 143 dMod_inject_135 rfl (fun h135 => ?_) (fun h135 => ?_)
                            · exact absurd h135 (by decide)
                            · refine g_iload 138 dMod_inject_138 rfl ?_
                              refine g_if_eq 140 147 dMod_inject_140 rfl (fun h140 => ?_) (fun h140 => ?_)
                              · refine g_iload 147 dMod_inject_147 rfl ?_
                                refine g_iload_n 149 dMod_inject_149 rfl ?_
                                refine g_iconst 150 2 dMod_inject_150 rfl ?_
                                refine g_icmp_ge 151 159 dMod_inject_151 rfl (fun h151 => ?_) (fun h151 => ?_)
                                · refine g_iload 159 dMod_inject_159 rfl ?_
                                  refine g_if_eq 161 168 dMod_inject_161 rfl (fun h161 => ?_) (fun h161 => ?_)
                                  · refine g_iconst 168 0 dMod_inject_168 rfl ?_
                                    refine g_callV 169 [_, _, _, _, _] dMod_inject_169 cs_Mod_182 rfl (ci := 10) rfl (by decide) hS.mod rfl ⟨(Nat.le_of_ble_eq_true rfl), (Nat.le_of_ble_eq_true rfl)⟩ (Nat.le_of_ble_eq_true rfl) (ct_Mod_push (h := h) (c := n) hS he q1 q2 hh (by omega) (Or.inl rfl)) (Nat.le_of_ble_eq_true rfl) (Nat.le_of_ble_eq_true rfl) ?_
                                    rintro _ _ ⟨rfl, rfl⟩
                                    refine g_istore 172 dMod_inject_172 (by decide) rfl ?_
                                    refine g_aload_n 174 dMod_inject_174 rfl ?_
                                    refine g_getr 175 10 7 dMod_inject_175 fs_Mod_32 rfl hS.mod hS.R_settings ?_
                                    refine g_iload 178 dMod_inject_178 rfl ?_
                                    refine g_iload_n 180 dMod_inject_180 rfl ?_
                                    refine g_iconst 181 4 dMod_inject_181 rfl ?_
                                    refine g_icmp_ne 182 194 dMod_inject_182 rfl (fun h182 => ?_) (fun h182 => ?_)
                                    · exact absurd (by decide) h182
                                    · refine g_iload 185 dMod_inject_185 rfl ?_
                                      refine g_if_ne 187 194 dMod_inject_187 rfl (fun h187 => ?_) (fun h187 => ?_)
                                      · exact absurd rfl h187
                                      · refine g_iload_n 190 dMod_inject_190 rfl ?_
                                        refine g_goto 191 195 dMod_inject_191 rfl ?_
                                        refine g_iastN 195 dMod_inject_195 hS.T_settings (by omega) (by decide) ?_
                                        refine g_iload_n 196 dMod_inject_196 rfl ?_
                                        refine g_iconst 197 1 dMod_inject_197 rfl ?_
                                        refine g_icmp_ne 198 212 dMod_inject_198 rfl (fun h198 => ?_) (fun h198 => ?_)
                                        · refine g_iconst 212 1 dMod_inject_212 rfl ?_
                                          exact g_zret 213 dMod_inject_213 rfl (by decide) ⟨rfl, rfl⟩
                                        · exact absurd h198 (by decide)
                                  · exact absurd rfl h161
                                · exact absurd (by decide) h151
                              · exact absurd rfl h140
                        · exact absurd rfl h110
                    · exact absurd (by decide) h87
                  · exact absurd (by rw [show mI M 172 e = nI n from q2]; exact nI_lt hn (by decide)) h80
                · exact absurd h57 (by decide)
        · exact absurd (by decide) h16

set_option maxRecDepth 100000 in
set_option maxHeartbeats 4000000 in
theorem cm_inject_4a {X : mX} {l : Launch} {M : mM} {e : Nat} (hS : Shp M) (he : e < 2) {s x : Int32} {h n : Nat} (q1 : Rhead M e = nI h) (q2 : Rcount M e = nI n) (hh : h < 48) (hn : n < 30) : Ct X l uMod_inject (rk 1 26) [.ref 169, .int (nI e), .int 4, .int s, .int x, .int 1] M (fun r M' => r = some (.int 1) ∧ M' = setI (pushM M e h n 4 0 0 1) 177 (48 * e + (h + n) % 48) 0) := by
  refine Ct.of (by decide) (Nat.le_of_ble_eq_true rfl) ?_
  show G X l uMod_inject (rk 1 26) 0 0 M 0 [some (.ref 169), some (.int (nI e)), some (.int 4), some (.int s), some (.int x), some (.int 1), none, none, none, none] [] _
  refine g_iload_n 0 dMod_inject_0 rfl ?_
  refine g_if_eq 1 31 dMod_inject_1 rfl (fun h1 => ?_) (fun h1 => ?_)
  · exact absurd h1 (by decide)
  · refine g_iload_n 4 dMod_inject_4 rfl ?_
    refine g_iconst 5 1 dMod_inject_5 rfl ?_
    refine g_icmp_eq 6 31 dMod_inject_6 rfl (fun h6 => ?_) (fun h6 => ?_)
    · exact absurd h6 (by decide)
    · refine g_iload_n 9 dMod_inject_9 rfl ?_
      refine g_iconst 10 3 dMod_inject_10 rfl ?_
      refine g_icmp_eq 11 31 dMod_inject_11 rfl (fun h11 => ?_) (fun h11 => ?_)
      · exact absurd h11 (by decide)
      · refine g_iload_n 14 dMod_inject_14 rfl ?_
        refine g_iconst 15 4 dMod_inject_15 rfl ?_
        refine g_icmp_eq 16 31 dMod_inject_16 rfl (fun h16 => ?_) (fun h16 => ?_)
        · refine g_iconst 31 1 dMod_inject_31 rfl ?_
          refine g_goto 32 36 dMod_inject_32 rfl ?_
          refine g_istore 36 dMod_inject_36 (by decide) rfl ?_
          refine g_iload_n 38 dMod_inject_38 rfl ?_
          refine g_callS 39 [_] dMod_inject_39 cs_Mod_171 rfl rfl ⟨(Nat.le_of_ble_eq_true rfl), (Nat.le_of_ble_eq_true rfl)⟩ (Nat.le_of_ble_eq_true rfl) (ct_isEnd_y he) (Nat.le_of_ble_eq_true rfl) (Nat.le_of_ble_eq_true rfl) ?_
          rintro _ M2 ⟨rfl, hM2⟩
          rw [hM2]
          clear hM2 M2
          refine g_if_eq 42 83 dMod_inject_42 rfl (fun h42 => ?_) (fun h42 => ?_)
          · exact absurd h42 (by decide)
          · refine g_iload 45 dMod_inject_45 rfl ?_
            refine g_if_eq 47 83 dMod_inject_47 rfl (fun h47 => ?_) (fun h47 => ?_)
            · exact absurd h47 (by decide)
            · refine g_iload_n 50 dMod_inject_50 rfl ?_
              refine g_if_eq 51 60 dMod_inject_51 rfl (fun h51 => ?_) (fun h51 => ?_)
              · exact absurd h51 (by decide)
              · refine g_iload_n 54 dMod_inject_54 rfl ?_
                refine g_bipush 55 7 dMod_inject_55 rfl ?_
                refine g_icmp_ne 57 72 dMod_inject_57 rfl (fun h57 => ?_) (fun h57 => ?_)
                · refine g_aload_n 72 dMod_inject_72 rfl ?_
                  refine g_getr 73 10 2 dMod_inject_73 fs_Mod_16 rfl hS.mod hS.R_count ?_
                  refine g_iload_n 76 dMod_inject_76 rfl ?_
                  refine g_ialdN 77 dMod_inject_77 hS.T_count (by omega) (by decide) ?_
                  refine g_bipush 78 30 dMod_inject_78 rfl ?_
                  refine g_icmp_lt 80 85 dMod_inject_80 rfl (fun h80 => ?_) (fun h80 => ?_)
                  · refine g_iload_n 85 dMod_inject_85 rfl ?_
                    refine g_iconst 86 4 dMod_inject_86 rfl ?_
                    refine g_icmp_eq 87 96 dMod_inject_87 rfl (fun h87 => ?_) (fun h87 => ?_)
                    · refine g_iconst 96 1 dMod_inject_96 rfl ?_
                      refine g_goto 97 101 dMod_inject_97 rfl ?_
                      refine g_istore 101 dMod_inject_101 (by decide) rfl ?_
                      refine g_iload_n 103 dMod_inject_103 rfl ?_
                      refine g_iconst 104 4 dMod_inject_104 rfl ?_
                      refine g_icmp_ne 105 117 dMod_inject_105 rfl (fun h105 => ?_) (fun h105 => ?_)
                      · exact absurd (by decide) h105
                      · refine g_iload 108 dMod_inject_108 rfl ?_
                        refine g_if_eq 110 117 dMod_inject_110 rfl (fun h110 => ?_) (fun h110 => ?_)
                        · exact absurd h110 (by decide)
                        · refine g_iconst 113 1 dMod_inject_113 rfl ?_
                          refine g_goto 114 118 dMod_inject_114 rfl ?_
                          refine g_istore 118 dMod_inject_118 (by decide) rfl ?_
                          refine g_aload_n 120 dMod_inject_120 rfl ?_
                          refine g_iload_n 121 dMod_inject_121 rfl ?_
                          refine g_iload_n 122 dMod_inject_122 rfl ?_
                          refine g_iload 123 dMod_inject_123 rfl ?_
                          refine g_if_eq 125 132 dMod_inject_125 rfl (fun h125 => ?_) (fun h125 => ?_)
                          · exact absurd h125 (by decide)
                          · refine g_iconst 128 0 dMod_inject_128 rfl ?_
                            refine g_goto 129 133 dMod_inject_129 rfl ?_
                            refine g_iload_n 133 dMod_inject_133 rfl ?_
                            refine g_iconst 134 1 dMod_inject_134 rfl ?_
                            refine g_icmp_eq 135 143 dMod_inject_135 rfl (fun h135 => ?_) (fun h135 => ?_)
                            · exact absurd h135 (by decide)
                            · refine g_iload 138 dMod_inject_138 rfl ?_
                              refine g_if_eq 140 147 dMod_inject_140 rfl (fun h140 => ?_) (fun h140 => ?_)
                              · exact absurd h140 (by decide)
                              · refine g_iconst 143 0 dMod_inject_143 rfl ?_
                                refine g_goto 144 149 dMod_inject_144 rfl ?_
                                refine g_iload_n 149 dMod_inject_149 rfl ?_
                                refine g_iconst 150 2 dMod_inject_150 rfl ?_
                                refine g_icmp_ge 151 159 dMod_inject_151 rfl (fun h151 => ?_) (fun h151 => ?_)
                                · refine g_iload 159 dMod_inject_159 rfl ?_
                                  refine g_if_eq 161 168 dMod_inject_161 rfl (fun h161 => ?_) (fun h161 => ?_)
                                  · exact absurd h161 (by decide)
                                  · refine g_iconst 164 1 dMod_inject_164 rfl ?_
                                    refine g_goto 165 169 dMod_inject_165 rfl ?_
                                    refine g_callV 169 [_, _, _, _, _] dMod_inject_169 cs_Mod_182 rfl (ci := 10) rfl (by decide) hS.mod rfl ⟨(Nat.le_of_ble_eq_true rfl), (Nat.le_of_ble_eq_true rfl)⟩ (Nat.le_of_ble_eq_true rfl) (ct_Mod_push (h := h) (c := n) hS he q1 q2 hh (by omega) (Or.inr rfl)) (Nat.le_of_ble_eq_true rfl) (Nat.le_of_ble_eq_true rfl) ?_
                                    rintro _ _ ⟨rfl, rfl⟩
                                    refine g_istore 172 dMod_inject_172 (by decide) rfl ?_
                                    refine g_aload_n 174 dMod_inject_174 rfl ?_
                                    refine g_getr 175 10 7 dMod_inject_175 fs_Mod_32 rfl hS.mod hS.R_settings ?_
                                    refine g_iload 178 dMod_inject_178 rfl ?_
                                    refine g_iload_n 180 dMod_inject_180 rfl ?_
                                    refine g_iconst 181 4 dMod_inject_181 rfl ?_
                                    refine g_icmp_ne 182 194 dMod_inject_182 rfl (fun h182 => ?_) (fun h182 => ?_)
                                    · exact absurd (by decide) h182
                                    · refine g_iload 185 dMod_inject_185 rfl ?_
                                      refine g_if_ne 187 194 dMod_inject_187 rfl (fun h187 => ?_) (fun h187 => ?_)
                                      · refine g_iconst 194 0 dMod_inject_194 rfl ?_
                                        refine g_iastN 195 dMod_inject_195 hS.T_settings (by omega) (by decide) ?_
                                        refine g_iload_n 196 dMod_inject_196 rfl ?_
                                        refine g_iconst 197 1 dMod_inject_197 rfl ?_
                                        refine g_icmp_ne 198 212 dMod_inject_198 rfl (fun h198 => ?_) (fun h198 => ?_)
                                        · refine g_iconst 212 1 dMod_inject_212 rfl ?_
                                          exact g_zret 213 dMod_inject_213 rfl (by decide) ⟨rfl, rfl⟩
                                        · exact absurd h198 (by decide)
                                      · exact absurd h187 (by decide)
                                · exact absurd (by decide) h151
                    · exact absurd (by decide) h87
                  · exact absurd (by rw [show mI M 172 e = nI n from q2]; exact nI_lt hn (by decide)) h80
                · exact absurd h57 (by decide)
        · exact absurd (by decide) h16

set_option maxRecDepth 100000 in
set_option maxHeartbeats 4000000 in
theorem cm_inject_0a {X : mX} {l : Launch} {M : mM} {e : Nat} (hS : Shp M) (he : e < 2) {s x : Int32} (hx0 : ¬ x < 0) (hx1 : ¬ 15 < x) {h n : Nat} (q1 : Rhead M e = nI h) (q2 : Rcount M e = nI n) (hh : h < 48) (hn : n < 30) : Ct X l uMod_inject (rk 1 26) [.ref 169, .int (nI e), .int 0, .int s, .int x, .int 0] M (fun r M' => r = some (.int 1) ∧ M' = setI (pushM M e h n 0 s x 0) 177 (48 * e + (h + n) % 48) 0) := by
  refine Ct.of (by decide) (Nat.le_of_ble_eq_true rfl) ?_
  show G X l uMod_inject (rk 1 26) 0 0 M 0 [some (.ref 169), some (.int (nI e)), some (.int 0), some (.int s), some (.int x), some (.int 0), none, none, none, none] [] _
  refine g_iload_n 0 dMod_inject_0 rfl ?_
  refine g_if_eq 1 31 dMod_inject_1 rfl (fun h1 => ?_) (fun h1 => ?_)
  · refine g_iconst 31 1 dMod_inject_31 rfl ?_
    refine g_goto 32 36 dMod_inject_32 rfl ?_
    refine g_istore 36 dMod_inject_36 (by decide) rfl ?_
    refine g_iload_n 38 dMod_inject_38 rfl ?_
    refine g_callS 39 [_] dMod_inject_39 cs_Mod_171 rfl rfl ⟨(Nat.le_of_ble_eq_true rfl), (Nat.le_of_ble_eq_true rfl)⟩ (Nat.le_of_ble_eq_true rfl) (ct_isEnd_y he) (Nat.le_of_ble_eq_true rfl) (Nat.le_of_ble_eq_true rfl) ?_
    rintro _ M2 ⟨rfl, hM2⟩
    rw [hM2]
    clear hM2 M2
    refine g_if_eq 42 83 dMod_inject_42 rfl (fun h42 => ?_) (fun h42 => ?_)
    · exact absurd h42 (by decide)
    · refine g_iload 45 dMod_inject_45 rfl ?_
      refine g_if_eq 47 83 dMod_inject_47 rfl (fun h47 => ?_) (fun h47 => ?_)
      · exact absurd h47 (by decide)
      · refine g_iload_n 50 dMod_inject_50 rfl ?_
        refine g_if_eq 51 60 dMod_inject_51 rfl (fun h51 => ?_) (fun h51 => ?_)
        · refine g_iload 60 dMod_inject_60 rfl ?_
          refine g_if_lt 62 83 dMod_inject_62 rfl (fun h62 => ?_) (fun h62 => ?_)
          · exact absurd h62 hx0
          · refine g_iload 65 dMod_inject_65 rfl ?_
            refine g_bipush 67 15 dMod_inject_67 rfl ?_
            refine g_icmp_gt 69 83 dMod_inject_69 rfl (fun h69 => ?_) (fun h69 => ?_)
            · exact absurd h69 hx1
            · refine g_aload_n 72 dMod_inject_72 rfl ?_
              refine g_getr 73 10 2 dMod_inject_73 fs_Mod_16 rfl hS.mod hS.R_count ?_
              refine g_iload_n 76 dMod_inject_76 rfl ?_
              refine g_ialdN 77 dMod_inject_77 hS.T_count (by omega) (by decide) ?_
              refine g_bipush 78 30 dMod_inject_78 rfl ?_
              refine g_icmp_lt 80 85 dMod_inject_80 rfl (fun h80 => ?_) (fun h80 => ?_)
              · refine g_iload_n 85 dMod_inject_85 rfl ?_
                refine g_iconst 86 4 dMod_inject_86 rfl ?_
                refine g_icmp_eq 87 96 dMod_inject_87 rfl (fun h87 => ?_) (fun h87 => ?_)
                · exact absurd h87 (by decide)
                · refine g_iload_n 90 dMod_inject_90 rfl ?_
                  refine g_bipush 91 7 dMod_inject_91 rfl ?_
                  refine g_icmp_ne 93 100 dMod_inject_93 rfl (fun h93 => ?_) (fun h93 => ?_)
                  · refine g_iconst 100 0 dMod_inject_100 rfl ?_
                    refine g_istore 101 dMod_inject_101 (by decide) rfl ?_
                    refine g_iload_n 103 dMod_inject_103 rfl ?_
                    refine g_iconst 104 4 dMod_inject_104 rfl ?_
                    refine g_icmp_ne 105 117 dMod_inject_105 rfl (fun h105 => ?_) (fun h105 => ?_)
                    · refine g_iconst 117 0 dMod_inject_117 rfl ?_
                      refine g_istore 118 dMod_inject_118 (by decide) rfl ?_
                      refine g_aload_n 120 dMod_inject_120 rfl ?_
                      refine g_iload_n 121 dMod_inject_121 rfl ?_
                      refine g_iload_n 122 dMod_inject_122 rfl ?_
                      refine g_iload 123 dMod_inject_123 rfl ?_
                      refine g_if_eq 125 132 dMod_inject_125 rfl (fun h125 => ?_) (fun h125 => ?_)
                      · refine g_iload_n 132 dMod_inject_132 rfl ?_
                        refine g_iload_n 133 dMod_inject_133 rfl ?_
                        refine g_iconst 134 1 dMod_inject_134 rfl ?_
                        refine g_icmp_eq 135 143 dMod_inject_135 rfl (fun h135 => ?_) (fun h135 => ?_)
                        · exact absurd h135 (by decide)
                        · refine g_iload 138 dMod_inject_138 rfl ?_
                          refine g_if_eq 140 147 dMod_inject_140 rfl (fun h140 => ?_) (fun h140 => ?_)
                          · refine g_iload 147 dMod_inject_147 rfl ?_
                            refine g_iload_n 149 dMod_inject_149 rfl ?_
                            refine g_iconst 150 2 dMod_inject_150 rfl ?_
                            refine g_icmp_ge 151 159 dMod_inject_151 rfl (fun h151 => ?_) (fun h151 => ?_)
                            · exact absurd h151 (by decide)
                            · refine g_iload 154 dMod_inject_154 rfl ?_
                              refine g_if_ne 156 164 dMod_inject_156 rfl (fun h156 => ?_) (fun h156 => ?_)
                              · exact absurd rfl h156
                              · refine g_iload 159 dMod_inject_159 rfl ?_
                                refine g_if_eq 161 168 dMod_inject_161 rfl (fun h161 => ?_) (fun h161 => ?_)
                                · refine g_iconst 168 0 dMod_inject_168 rfl ?_
                                  refine g_callV 169 [_, _, _, _, _] dMod_inject_169 cs_Mod_182 rfl (ci := 10) rfl (by decide) hS.mod rfl ⟨(Nat.le_of_ble_eq_true rfl), (Nat.le_of_ble_eq_true rfl)⟩ (Nat.le_of_ble_eq_true rfl) (ct_Mod_push (h := h) (c := n) hS he q1 q2 hh (by omega) (Or.inl rfl)) (Nat.le_of_ble_eq_true rfl) (Nat.le_of_ble_eq_true rfl) ?_
                                  rintro _ _ ⟨rfl, rfl⟩
                                  refine g_istore 172 dMod_inject_172 (by decide) rfl ?_
                                  refine g_aload_n 174 dMod_inject_174 rfl ?_
                                  refine g_getr 175 10 7 dMod_inject_175 fs_Mod_32 rfl hS.mod hS.R_settings ?_
                                  refine g_iload 178 dMod_inject_178 rfl ?_
                                  refine g_iload_n 180 dMod_inject_180 rfl ?_
                                  refine g_iconst 181 4 dMod_inject_181 rfl ?_
                                  refine g_icmp_ne 182 194 dMod_inject_182 rfl (fun h182 => ?_) (fun h182 => ?_)
                                  · refine g_iconst 194 0 dMod_inject_194 rfl ?_
                                    refine g_iastN 195 dMod_inject_195 hS.T_settings (by omega) (by decide) ?_
                                    refine g_iload_n 196 dMod_inject_196 rfl ?_
                                    refine g_iconst 197 1 dMod_inject_197 rfl ?_
                                    refine g_icmp_ne 198 212 dMod_inject_198 rfl (fun h198 => ?_) (fun h198 => ?_)
                                    · refine g_iconst 212 1 dMod_inject_212 rfl ?_
                                      exact g_zret 213 dMod_inject_213 rfl (by decide) ⟨rfl, rfl⟩
                                    · exact absurd h198 (by decide)
                                  · exact absurd h182 (by decide)
                                · exact absurd rfl h161
                          · exact absurd rfl h140
                      · exact absurd rfl h125
                    · exact absurd h105 (by decide)
                  · exact absurd h93 (by decide)
              · exact absurd (by rw [show mI M 172 e = nI n from q2]; exact nI_lt hn (by decide)) h80
        · exact absurd rfl h51
  · exact absurd rfl h1

set_option maxRecDepth 100000 in
set_option maxHeartbeats 4000000 in
theorem cm_inject_1a {X : mX} {l : Launch} {M : mM} {e : Nat} (hS : Shp M) (he : e < 2) {s x : Int32} {h n : Nat} (q1 : Rhead M e = nI h) (q2 : Rcount M e = nI n) (hh : h < 48) (hn : n < 30) : Ct X l uMod_inject (rk 1 26) [.ref 169, .int (nI e), .int 1, .int s, .int x, .int 0] M (fun r M' => r = some (.int 1) ∧ M' = stepM (setI (pushM M e h n 1 s 0 0) 177 (48 * e + (h + n) % 48) 0) (48 * e + (h + n) % 48) 0 1 x 0 0) := by
  refine Ct.of (by decide) (Nat.le_of_ble_eq_true rfl) ?_
  show G X l uMod_inject (rk 1 26) 0 0 M 0 [some (.ref 169), some (.int (nI e)), some (.int 1), some (.int s), some (.int x), some (.int 0), none, none, none, none] [] _
  refine g_iload_n 0 dMod_inject_0 rfl ?_
  refine g_if_eq 1 31 dMod_inject_1 rfl (fun h1 => ?_) (fun h1 => ?_)
  · exact absurd h1 (by decide)
  · refine g_iload_n 4 dMod_inject_4 rfl ?_
    refine g_iconst 5 1 dMod_inject_5 rfl ?_
    refine g_icmp_eq 6 31 dMod_inject_6 rfl (fun h6 => ?_) (fun h6 => ?_)
    · refine g_iconst 31 1 dMod_inject_31 rfl ?_
      refine g_goto 32 36 dMod_inject_32 rfl ?_
      refine g_istore 36 dMod_inject_36 (by decide) rfl ?_
      refine g_iload_n 38 dMod_inject_38 rfl ?_
      refine g_callS 39 [_] dMod_inject_39 cs_Mod_171 rfl rfl ⟨(Nat.le_of_ble_eq_true rfl), (Nat.le_of_ble_eq_true rfl)⟩ (Nat.le_of_ble_eq_true rfl) (ct_isEnd_y he) (Nat.le_of_ble_eq_true rfl) (Nat.le_of_ble_eq_true rfl) ?_
      rintro _ M2 ⟨rfl, hM2⟩
      rw [hM2]
      clear hM2 M2
      refine g_if_eq 42 83 dMod_inject_42 rfl (fun h42 => ?_) (fun h42 => ?_)
      · exact absurd h42 (by decide)
      · refine g_iload 45 dMod_inject_45 rfl ?_
        refine g_if_eq 47 83 dMod_inject_47 rfl (fun h47 => ?_) (fun h47 => ?_)
        · exact absurd h47 (by decide)
        · refine g_iload_n 50 dMod_inject_50 rfl ?_
          refine g_if_eq 51 60 dMod_inject_51 rfl (fun h51 => ?_) (fun h51 => ?_)
          · exact absurd h51 (by decide)
          · refine g_iload_n 54 dMod_inject_54 rfl ?_
            refine g_bipush 55 7 dMod_inject_55 rfl ?_
            refine g_icmp_ne 57 72 dMod_inject_57 rfl (fun h57 => ?_) (fun h57 => ?_)
            · refine g_aload_n 72 dMod_inject_72 rfl ?_
              refine g_getr 73 10 2 dMod_inject_73 fs_Mod_16 rfl hS.mod hS.R_count ?_
              refine g_iload_n 76 dMod_inject_76 rfl ?_
              refine g_ialdN 77 dMod_inject_77 hS.T_count (by omega) (by decide) ?_
              refine g_bipush 78 30 dMod_inject_78 rfl ?_
              refine g_icmp_lt 80 85 dMod_inject_80 rfl (fun h80 => ?_) (fun h80 => ?_)
              · refine g_iload_n 85 dMod_inject_85 rfl ?_
                refine g_iconst 86 4 dMod_inject_86 rfl ?_
                refine g_icmp_eq 87 96 dMod_inject_87 rfl (fun h87 => ?_) (fun h87 => ?_)
                · exact absurd h87 (by decide)
                · refine g_iload_n 90 dMod_inject_90 rfl ?_
                  refine g_bipush 91 7 dMod_inject_91 rfl ?_
                  refine g_icmp_ne 93 100 dMod_inject_93 rfl (fun h93 => ?_) (fun h93 => ?_)
                  · refine g_iconst 100 0 dMod_inject_100 rfl ?_
                    refine g_istore 101 dMod_inject_101 (by decide) rfl ?_
                    refine g_iload_n 103 dMod_inject_103 rfl ?_
                    refine g_iconst 104 4 dMod_inject_104 rfl ?_
                    refine g_icmp_ne 105 117 dMod_inject_105 rfl (fun h105 => ?_) (fun h105 => ?_)
                    · refine g_iconst 117 0 dMod_inject_117 rfl ?_
                      refine g_istore 118 dMod_inject_118 (by decide) rfl ?_
                      refine g_aload_n 120 dMod_inject_120 rfl ?_
                      refine g_iload_n 121 dMod_inject_121 rfl ?_
                      refine g_iload_n 122 dMod_inject_122 rfl ?_
                      refine g_iload 123 dMod_inject_123 rfl ?_
                      refine g_if_eq 125 132 dMod_inject_125 rfl (fun h125 => ?_) (fun h125 => ?_)
                      · refine g_iload_n 132 dMod_inject_132 rfl ?_
                        refine g_iload_n 133 dMod_inject_133 rfl ?_
                        refine g_iconst 134 1 dMod_inject_134 rfl ?_
                        refine g_icmp_eq 135 143 dMod_inject_135 rfl (fun h135 => ?_) (fun h135 => ?_)
                        · refine g_iconst 143 0 dMod_inject_143 rfl ?_
                          refine g_goto 144 149 dMod_inject_144 rfl ?_
                          refine g_iload_n 149 dMod_inject_149 rfl ?_
                          refine g_iconst 150 2 dMod_inject_150 rfl ?_
                          refine g_icmp_ge 151 159 dMod_inject_151 rfl (fun h151 => ?_) (fun h151 => ?_)
                          · exact absurd h151 (by decide)
                          · refine g_iload 154 dMod_inject_154 rfl ?_
                            refine g_if_ne 156 164 dMod_inject_156 rfl (fun h156 => ?_) (fun h156 => ?_)
                            · exact absurd rfl h156
                            · refine g_iload 159 dMod_inject_159 rfl ?_
                              refine g_if_eq 161 168 dMod_inject_161 rfl (fun h161 => ?_) (fun h161 => ?_)
                              · refine g_iconst 168 0 dMod_inject_168 rfl ?_
                                refine g_callV 169 [_, _, _, _, _] dMod_inject_169 cs_Mod_182 rfl (ci := 10) rfl (by decide) hS.mod rfl ⟨(Nat.le_of_ble_eq_true rfl), (Nat.le_of_ble_eq_true rfl)⟩ (Nat.le_of_ble_eq_true rfl) (ct_Mod_push (h := h) (c := n) hS he q1 q2 hh (by omega) (Or.inl rfl)) (Nat.le_of_ble_eq_true rfl) (Nat.le_of_ble_eq_true rfl) ?_
                                rintro _ _ ⟨rfl, rfl⟩
                                refine g_istore 172 dMod_inject_172 (by decide) rfl ?_
                                refine g_aload_n 174 dMod_inject_174 rfl ?_
                                refine g_getr 175 10 7 dMod_inject_175 fs_Mod_32 rfl hS.mod hS.R_settings ?_
                                refine g_iload 178 dMod_inject_178 rfl ?_
                                refine g_iload_n 180 dMod_inject_180 rfl ?_
                                refine g_iconst 181 4 dMod_inject_181 rfl ?_
                                refine g_icmp_ne 182 194 dMod_inject_182 rfl (fun h182 => ?_) (fun h182 => ?_)
                                · refine g_iconst 194 0 dMod_inject_194 rfl ?_
                                  refine g_iastN 195 dMod_inject_195 hS.T_settings (by omega) (by decide) ?_
                                  refine g_iload_n 196 dMod_inject_196 rfl ?_
                                  refine g_iconst 197 1 dMod_inject_197 rfl ?_
                                  refine g_icmp_ne 198 212 dMod_inject_198 rfl (fun h198 => ?_) (fun h198 => ?_)
                                  · exact absurd (by decide) h198
                                  · refine g_aload_n 201 dMod_inject_201 rfl ?_
                                    refine g_iload 202 dMod_inject_202 rfl ?_
                                    refine g_iconst 204 1 dMod_inject_204 rfl ?_
                                    refine g_iload 205 dMod_inject_205 rfl ?_
                                    refine g_iconst 207 0 dMod_inject_207 rfl ?_
                                    refine g_iconst 208 0 dMod_inject_208 rfl ?_
                                    refine g_callV 209 [_, _, _, _, _] dMod_inject_209 cs_Mod_219 rfl (ci := 10) rfl (by decide) hS.mod rfl ⟨(Nat.le_of_ble_eq_true rfl), (Nat.le_of_ble_eq_true rfl)⟩ (Nat.le_of_ble_eq_true rfl) (cm_step hS (by omega) (a := 0) (by simp [Ramounts, pushM, mI_setI, mI_setL, up2]; rfl) (by decide)) (Nat.le_of_ble_eq_true rfl) (Nat.le_of_ble_eq_true rfl) ?_
                                    rintro _ _ ⟨rfl, rfl⟩
                                    refine g_iconst 212 1 dMod_inject_212 rfl ?_
                                    exact g_zret 213 dMod_inject_213 rfl (by decide) ⟨rfl, rfl⟩
                                · exact absurd h182 (by decide)
                              · exact absurd rfl h161
                        · exact absurd (by decide) h135
                      · exact absurd rfl h125
                    · exact absurd h105 (by decide)
                  · exact absurd h93 (by decide)
              · exact absurd (by rw [show mI M 172 e = nI n from q2]; exact nI_lt hn (by decide)) h80
            · exact absurd h57 (by decide)
    · exact absurd (by decide) h6

set_option maxRecDepth 100000 in
set_option maxHeartbeats 4000000 in
theorem cm_inject_0b {X : mX} {l : Launch} {M : mM} {e : Nat} (hS : Shp M) (he : e < 2) {s x : Int32} (hx0 : ¬ x < 0) (hx1 : ¬ 15 < x) {h n : Nat} (q1 : Rhead M e = nI h) (q2 : Rcount M e = nI n) (hh : h < 48) (hn : n < 30) : Ct X l uMod_inject (rk 1 26) [.ref 169, .int (nI e), .int 0, .int s, .int x, .int 1] M (fun r M' => r = some (.int 1) ∧ M' = setI (pushM M e h n 0 s x 1) 177 (48 * e + (h + n) % 48) 0) := by
  refine Ct.of (by decide) (Nat.le_of_ble_eq_true rfl) ?_
  show G X l uMod_inject (rk 1 26) 0 0 M 0 [some (.ref 169), some (.int (nI e)), some (.int 0), some (.int s), some (.int x), some (.int 1), none, none, none, none] [] _
  refine g_iload_n 0 dMod_inject_0 rfl ?_
  refine g_if_eq 1 31 dMod_inject_1 rfl (fun h1 => ?_) (fun h1 => ?_)
  · refine g_iconst 31 1 dMod_inject_31 rfl ?_
    refine g_goto 32 36 dMod_inject_32 rfl ?_
    refine g_istore 36 dMod_inject_36 (by decide) rfl ?_
    refine g_iload_n 38 dMod_inject_38 rfl ?_
    refine g_callS 39 [_] dMod_inject_39 cs_Mod_171 rfl rfl ⟨(Nat.le_of_ble_eq_true rfl), (Nat.le_of_ble_eq_true rfl)⟩ (Nat.le_of_ble_eq_true rfl) (ct_isEnd_y he) (Nat.le_of_ble_eq_true rfl) (Nat.le_of_ble_eq_true rfl) ?_
    rintro _ M2 ⟨rfl, hM2⟩
    rw [hM2]
    clear hM2 M2
    refine g_if_eq 42 83 dMod_inject_42 rfl (fun h42 => ?_) (fun h42 => ?_)
    · exact absurd h42 (by decide)
    · refine g_iload 45 dMod_inject_45 rfl ?_
      refine g_if_eq 47 83 dMod_inject_47 rfl (fun h47 => ?_) (fun h47 => ?_)
      · exact absurd h47 (by decide)
      · refine g_iload_n 50 dMod_inject_50 rfl ?_
        refine g_if_eq 51 60 dMod_inject_51 rfl (fun h51 => ?_) (fun h51 => ?_)
        · refine g_iload 60 dMod_inject_60 rfl ?_
          refine g_if_lt 62 83 dMod_inject_62 rfl (fun h62 => ?_) (fun h62 => ?_)
          · exact absurd h62 hx0
          · refine g_iload 65 dMod_inject_65 rfl ?_
            refine g_bipush 67 15 dMod_inject_67 rfl ?_
            refine g_icmp_gt 69 83 dMod_inject_69 rfl (fun h69 => ?_) (fun h69 => ?_)
            · exact absurd h69 hx1
            · refine g_aload_n 72 dMod_inject_72 rfl ?_
              refine g_getr 73 10 2 dMod_inject_73 fs_Mod_16 rfl hS.mod hS.R_count ?_
              refine g_iload_n 76 dMod_inject_76 rfl ?_
              refine g_ialdN 77 dMod_inject_77 hS.T_count (by omega) (by decide) ?_
              refine g_bipush 78 30 dMod_inject_78 rfl ?_
              refine g_icmp_lt 80 85 dMod_inject_80 rfl (fun h80 => ?_) (fun h80 => ?_)
              · refine g_iload_n 85 dMod_inject_85 rfl ?_
                refine g_iconst 86 4 dMod_inject_86 rfl ?_
                refine g_icmp_eq 87 96 dMod_inject_87 rfl (fun h87 => ?_) (fun h87 => ?_)
                · exact absurd h87 (by decide)
                · refine g_iload_n 90 dMod_inject_90 rfl ?_
                  refine g_bipush 91 7 dMod_inject_91 rfl ?_
                  refine g_icmp_ne 93 100 dMod_inject_93 rfl (fun h93 => ?_) (fun h93 => ?_)
                  · refine g_iconst 100 0 dMod_inject_100 rfl ?_
                    refine g_istore 101 dMod_inject_101 (by decide) rfl ?_
                    refine g_iload_n 103 dMod_inject_103 rfl ?_
                    refine g_iconst 104 4 dMod_inject_104 rfl ?_
                    refine g_icmp_ne 105 117 dMod_inject_105 rfl (fun h105 => ?_) (fun h105 => ?_)
                    · refine g_iconst 117 0 dMod_inject_117 rfl ?_
                      refine g_istore 118 dMod_inject_118 (by decide) rfl ?_
                      refine g_aload_n 120 dMod_inject_120 rfl ?_
                      refine g_iload_n 121 dMod_inject_121 rfl ?_
                      refine g_iload_n 122 dMod_inject_122 rfl ?_
                      refine g_iload 123 dMod_inject_123 rfl ?_
                      refine g_if_eq 125 132 dMod_inject_125 rfl (fun h125 => ?_) (fun h125 => ?_)
                      · refine g_iload_n 132 dMod_inject_132 rfl ?_
                        refine g_iload_n 133 dMod_inject_133 rfl ?_
                        refine g_iconst 134 1 dMod_inject_134 rfl ?_
                        refine g_icmp_eq 135 143 dMod_inject_135 rfl (fun h135 => ?_) (fun h135 => ?_)
                        · exact absurd h135 (by decide)
                        · refine g_iload 138 dMod_inject_138 rfl ?_
                          refine g_if_eq 140 147 dMod_inject_140 rfl (fun h140 => ?_) (fun h140 => ?_)
                          · refine g_iload 147 dMod_inject_147 rfl ?_
                            refine g_iload_n 149 dMod_inject_149 rfl ?_
                            refine g_iconst 150 2 dMod_inject_150 rfl ?_
                            refine g_icmp_ge 151 159 dMod_inject_151 rfl (fun h151 => ?_) (fun h151 => ?_)
                            · exact absurd h151 (by decide)
                            · refine g_iload 154 dMod_inject_154 rfl ?_
                              refine g_if_ne 156 164 dMod_inject_156 rfl (fun h156 => ?_) (fun h156 => ?_)
                              · refine g_iconst 164 1 dMod_inject_164 rfl ?_
                                refine g_goto 165 169 dMod_inject_165 rfl ?_
                                refine g_callV 169 [_, _, _, _, _] dMod_inject_169 cs_Mod_182 rfl (ci := 10) rfl (by decide) hS.mod rfl ⟨(Nat.le_of_ble_eq_true rfl), (Nat.le_of_ble_eq_true rfl)⟩ (Nat.le_of_ble_eq_true rfl) (ct_Mod_push (h := h) (c := n) hS he q1 q2 hh (by omega) (Or.inr rfl)) (Nat.le_of_ble_eq_true rfl) (Nat.le_of_ble_eq_true rfl) ?_
                                rintro _ _ ⟨rfl, rfl⟩
                                refine g_istore 172 dMod_inject_172 (by decide) rfl ?_
                                refine g_aload_n 174 dMod_inject_174 rfl ?_
                                refine g_getr 175 10 7 dMod_inject_175 fs_Mod_32 rfl hS.mod hS.R_settings ?_
                                refine g_iload 178 dMod_inject_178 rfl ?_
                                refine g_iload_n 180 dMod_inject_180 rfl ?_
                                refine g_iconst 181 4 dMod_inject_181 rfl ?_
                                refine g_icmp_ne 182 194 dMod_inject_182 rfl (fun h182 => ?_) (fun h182 => ?_)
                                · refine g_iconst 194 0 dMod_inject_194 rfl ?_
                                  refine g_iastN 195 dMod_inject_195 hS.T_settings (by omega) (by decide) ?_
                                  refine g_iload_n 196 dMod_inject_196 rfl ?_
                                  refine g_iconst 197 1 dMod_inject_197 rfl ?_
                                  refine g_icmp_ne 198 212 dMod_inject_198 rfl (fun h198 => ?_) (fun h198 => ?_)
                                  · refine g_iconst 212 1 dMod_inject_212 rfl ?_
                                    exact g_zret 213 dMod_inject_213 rfl (by decide) ⟨rfl, rfl⟩
                                  · exact absurd h198 (by decide)
                                · exact absurd h182 (by decide)
                              · exact absurd h156 (by decide)
                          · exact absurd rfl h140
                      · exact absurd rfl h125
                    · exact absurd h105 (by decide)
                  · exact absurd h93 (by decide)
              · exact absurd (by rw [show mI M 172 e = nI n from q2]; exact nI_lt hn (by decide)) h80
        · exact absurd rfl h51
  · exact absurd rfl h1

set_option maxRecDepth 100000 in
set_option maxHeartbeats 4000000 in
theorem cm_inject_1b {X : mX} {l : Launch} {M : mM} {e : Nat} (hS : Shp M) (he : e < 2) {s x : Int32} {h n : Nat} (q1 : Rhead M e = nI h) (q2 : Rcount M e = nI n) (hh : h < 48) (hn : n < 30) : Ct X l uMod_inject (rk 1 26) [.ref 169, .int (nI e), .int 1, .int s, .int x, .int 1] M (fun r M' => r = some (.int 1) ∧ M' = stepM (setI (pushM M e h n 1 s 0 1) 177 (48 * e + (h + n) % 48) 0) (48 * e + (h + n) % 48) 0 1 x 0 0) := by
  refine Ct.of (by decide) (Nat.le_of_ble_eq_true rfl) ?_
  show G X l uMod_inject (rk 1 26) 0 0 M 0 [some (.ref 169), some (.int (nI e)), some (.int 1), some (.int s), some (.int x), some (.int 1), none, none, none, none] [] _
  refine g_iload_n 0 dMod_inject_0 rfl ?_
  refine g_if_eq 1 31 dMod_inject_1 rfl (fun h1 => ?_) (fun h1 => ?_)
  · exact absurd h1 (by decide)
  · refine g_iload_n 4 dMod_inject_4 rfl ?_
    refine g_iconst 5 1 dMod_inject_5 rfl ?_
    refine g_icmp_eq 6 31 dMod_inject_6 rfl (fun h6 => ?_) (fun h6 => ?_)
    · refine g_iconst 31 1 dMod_inject_31 rfl ?_
      refine g_goto 32 36 dMod_inject_32 rfl ?_
      refine g_istore 36 dMod_inject_36 (by decide) rfl ?_
      refine g_iload_n 38 dMod_inject_38 rfl ?_
      refine g_callS 39 [_] dMod_inject_39 cs_Mod_171 rfl rfl ⟨(Nat.le_of_ble_eq_true rfl), (Nat.le_of_ble_eq_true rfl)⟩ (Nat.le_of_ble_eq_true rfl) (ct_isEnd_y he) (Nat.le_of_ble_eq_true rfl) (Nat.le_of_ble_eq_true rfl) ?_
      rintro _ M2 ⟨rfl, hM2⟩
      rw [hM2]
      clear hM2 M2
      refine g_if_eq 42 83 dMod_inject_42 rfl (fun h42 => ?_) (fun h42 => ?_)
      · exact absurd h42 (by decide)
      · refine g_iload 45 dMod_inject_45 rfl ?_
        refine g_if_eq 47 83 dMod_inject_47 rfl (fun h47 => ?_) (fun h47 => ?_)
        · exact absurd h47 (by decide)
        · refine g_iload_n 50 dMod_inject_50 rfl ?_
          refine g_if_eq 51 60 dMod_inject_51 rfl (fun h51 => ?_) (fun h51 => ?_)
          · exact absurd h51 (by decide)
          · refine g_iload_n 54 dMod_inject_54 rfl ?_
            refine g_bipush 55 7 dMod_inject_55 rfl ?_
            refine g_icmp_ne 57 72 dMod_inject_57 rfl (fun h57 => ?_) (fun h57 => ?_)
            · refine g_aload_n 72 dMod_inject_72 rfl ?_
              refine g_getr 73 10 2 dMod_inject_73 fs_Mod_16 rfl hS.mod hS.R_count ?_
              refine g_iload_n 76 dMod_inject_76 rfl ?_
              refine g_ialdN 77 dMod_inject_77 hS.T_count (by omega) (by decide) ?_
              refine g_bipush 78 30 dMod_inject_78 rfl ?_
              refine g_icmp_lt 80 85 dMod_inject_80 rfl (fun h80 => ?_) (fun h80 => ?_)
              · refine g_iload_n 85 dMod_inject_85 rfl ?_
                refine g_iconst 86 4 dMod_inject_86 rfl ?_
                refine g_icmp_eq 87 96 dMod_inject_87 rfl (fun h87 => ?_) (fun h87 => ?_)
                · exact absurd h87 (by decide)
                · refine g_iload_n 90 dMod_inject_90 rfl ?_
                  refine g_bipush 91 7 dMod_inject_91 rfl ?_
                  refine g_icmp_ne 93 100 dMod_inject_93 rfl (fun h93 => ?_) (fun h93 => ?_)
                  · refine g_iconst 100 0 dMod_inject_100 rfl ?_
                    refine g_istore 101 dMod_inject_101 (by decide) rfl ?_
                    refine g_iload_n 103 dMod_inject_103 rfl ?_
                    refine g_iconst 104 4 dMod_inject_104 rfl ?_
                    refine g_icmp_ne 105 117 dMod_inject_105 rfl (fun h105 => ?_) (fun h105 => ?_)
                    · refine g_iconst 117 0 dMod_inject_117 rfl ?_
                      refine g_istore 118 dMod_inject_118 (by decide) rfl ?_
                      refine g_aload_n 120 dMod_inject_120 rfl ?_
                      refine g_iload_n 121 dMod_inject_121 rfl ?_
                      refine g_iload_n 122 dMod_inject_122 rfl ?_
                      refine g_iload 123 dMod_inject_123 rfl ?_
                      refine g_if_eq 125 132 dMod_inject_125 rfl (fun h125 => ?_) (fun h125 => ?_)
                      · refine g_iload_n 132 dMod_inject_132 rfl ?_
                        refine g_iload_n 133 dMod_inject_133 rfl ?_
                        refine g_iconst 134 1 dMod_inject_134 rfl ?_
                        refine g_icmp_eq 135 143 dMod_inject_135 rfl (fun h135 => ?_) (fun h135 => ?_)
                        · refine g_iconst 143 0 dMod_inject_143 rfl ?_
                          refine g_goto 144 149 dMod_inject_144 rfl ?_
                          refine g_iload_n 149 dMod_inject_149 rfl ?_
                          refine g_iconst 150 2 dMod_inject_150 rfl ?_
                          refine g_icmp_ge 151 159 dMod_inject_151 rfl (fun h151 => ?_) (fun h151 => ?_)
                          · exact absurd h151 (by decide)
                          · refine g_iload 154 dMod_inject_154 rfl ?_
                            refine g_if_ne 156 164 dMod_inject_156 rfl (fun h156 => ?_) (fun h156 => ?_)
                            · refine g_iconst 164 1 dMod_inject_164 rfl ?_
                              refine g_goto 165 169 dMod_inject_165 rfl ?_
                              refine g_callV 169 [_, _, _, _, _] dMod_inject_169 cs_Mod_182 rfl (ci := 10) rfl (by decide) hS.mod rfl ⟨(Nat.le_of_ble_eq_true rfl), (Nat.le_of_ble_eq_true rfl)⟩ (Nat.le_of_ble_eq_true rfl) (ct_Mod_push (h := h) (c := n) hS he q1 q2 hh (by omega) (Or.inr rfl)) (Nat.le_of_ble_eq_true rfl) (Nat.le_of_ble_eq_true rfl) ?_
                              rintro _ _ ⟨rfl, rfl⟩
                              refine g_istore 172 dMod_inject_172 (by decide) rfl ?_
                              refine g_aload_n 174 dMod_inject_174 rfl ?_
                              refine g_getr 175 10 7 dMod_inject_175 fs_Mod_32 rfl hS.mod hS.R_settings ?_
                              refine g_iload 178 dMod_inject_178 rfl ?_
                              refine g_iload_n 180 dMod_inject_180 rfl ?_
                              refine g_iconst 181 4 dMod_inject_181 rfl ?_
                              refine g_icmp_ne 182 194 dMod_inject_182 rfl (fun h182 => ?_) (fun h182 => ?_)
                              · refine g_iconst 194 0 dMod_inject_194 rfl ?_
                                refine g_iastN 195 dMod_inject_195 hS.T_settings (by omega) (by decide) ?_
                                refine g_iload_n 196 dMod_inject_196 rfl ?_
                                refine g_iconst 197 1 dMod_inject_197 rfl ?_
                                refine g_icmp_ne 198 212 dMod_inject_198 rfl (fun h198 => ?_) (fun h198 => ?_)
                                · exact absurd (by decide) h198
                                · refine g_aload_n 201 dMod_inject_201 rfl ?_
                                  refine g_iload 202 dMod_inject_202 rfl ?_
                                  refine g_iconst 204 1 dMod_inject_204 rfl ?_
                                  refine g_iload 205 dMod_inject_205 rfl ?_
                                  refine g_iconst 207 0 dMod_inject_207 rfl ?_
                                  refine g_iconst 208 0 dMod_inject_208 rfl ?_
                                  refine g_callV 209 [_, _, _, _, _] dMod_inject_209 cs_Mod_219 rfl (ci := 10) rfl (by decide) hS.mod rfl ⟨(Nat.le_of_ble_eq_true rfl), (Nat.le_of_ble_eq_true rfl)⟩ (Nat.le_of_ble_eq_true rfl) (cm_step hS (by omega) (a := 0) (by simp [Ramounts, pushM, mI_setI, mI_setL, up2]; rfl) (by decide)) (Nat.le_of_ble_eq_true rfl) (Nat.le_of_ble_eq_true rfl) ?_
                                  rintro _ _ ⟨rfl, rfl⟩
                                  refine g_iconst 212 1 dMod_inject_212 rfl ?_
                                  exact g_zret 213 dMod_inject_213 rfl (by decide) ⟨rfl, rfl⟩
                              · exact absurd h182 (by decide)
                            · exact absurd h156 (by decide)
                        · exact absurd (by decide) h135
                      · exact absurd rfl h125
                    · exact absurd h105 (by decide)
                  · exact absurd h93 (by decide)
              · exact absurd (by rw [show mI M 172 e = nI n from q2]; exact nI_lt hn (by decide)) h80
            · exact absurd h57 (by decide)
    · exact absurd (by decide) h6
