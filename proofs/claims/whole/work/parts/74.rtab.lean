theorem dMod_bound_0 : decode uMod_bound.2.1 0 = .ok (.aload_n 0, 1) := by decide +kernel
theorem dMod_bound_1 : decode uMod_bound.2.1 1 = .ok (.getfield 141, 3) := by decide +kernel
theorem dMod_bound_4 : decode uMod_bound.2.1 4 = .ok (.iload_n 1, 1) := by decide +kernel
theorem dMod_bound_5 : decode uMod_bound.2.1 5 = .ok (.iload_n 2, 1) := by decide +kernel
theorem dMod_bound_6 : decode uMod_bound.2.1 6 = .ok (.iastore, 1) := by decide +kernel
theorem dMod_bound_7 : decode uMod_bound.2.1 7 = .ok (.iconst 0, 1) := by decide +kernel
theorem dMod_bound_8 : decode uMod_bound.2.1 8 = .ok (.istore_n 3, 1) := by decide +kernel
theorem dMod_bound_9 : decode uMod_bound.2.1 9 = .ok (.iload_n 3, 1) := by decide +kernel
theorem dMod_bound_10 : decode uMod_bound.2.1 10 = .ok (.bipush 6, 2) := by decide +kernel
theorem dMod_bound_12 : decode uMod_bound.2.1 12 = .ok (.if_icmp .ge 32, 3) := by decide +kernel
theorem dMod_bound_15 : decode uMod_bound.2.1 15 = .ok (.aload_n 0, 1) := by decide +kernel
theorem dMod_bound_16 : decode uMod_bound.2.1 16 = .ok (.iload_n 1, 1) := by decide +kernel
theorem dMod_bound_17 : decode uMod_bound.2.1 17 = .ok (.invokevirtual 210, 3) := by decide +kernel
theorem dMod_bound_20 : decode uMod_bound.2.1 20 = .ok (.iload_n 2, 1) := by decide +kernel
theorem dMod_bound_21 : decode uMod_bound.2.1 21 = .ok (.if_icmp .le 23, 3) := by decide +kernel
theorem dMod_bound_24 : decode uMod_bound.2.1 24 = .ok (.aload_n 0, 1) := by decide +kernel
theorem dMod_bound_25 : decode uMod_bound.2.1 25 = .ok (.getfield 144, 3) := by decide +kernel
theorem dMod_bound_28 : decode uMod_bound.2.1 28 = .ok (.iload_n 1, 1) := by decide +kernel
theorem dMod_bound_29 : decode uMod_bound.2.1 29 = .ok (.aload_n 0, 1) := by decide +kernel
theorem dMod_bound_30 : decode uMod_bound.2.1 30 = .ok (.getfield 144, 3) := by decide +kernel
theorem dMod_bound_33 : decode uMod_bound.2.1 33 = .ok (.iload_n 1, 1) := by decide +kernel
theorem dMod_bound_34 : decode uMod_bound.2.1 34 = .ok (.iaload, 1) := by decide +kernel
theorem dMod_bound_35 : decode uMod_bound.2.1 35 = .ok (.iconst 1, 1) := by decide +kernel
theorem dMod_bound_36 : decode uMod_bound.2.1 36 = .ok (.isub, 1) := by decide +kernel
theorem dMod_bound_37 : decode uMod_bound.2.1 37 = .ok (.iastore, 1) := by decide +kernel
theorem dMod_bound_38 : decode uMod_bound.2.1 38 = .ok (.iinc 3 1, 3) := by decide +kernel
theorem dMod_bound_41 : decode uMod_bound.2.1 41 = .ok (.goto (-32), 3) := by decide +kernel
theorem dMod_bound_44 : decode uMod_bound.2.1 44 = .ok (.return_, 1) := by decide +kernel
theorem dMod_add_0 : decode uMod_add.2.1 0 = .ok (.iload_n 3, 1) := by decide +kernel
theorem dMod_add_1 : decode uMod_add.2.1 1 = .ok (.invokestatic 207, 3) := by decide +kernel
theorem dMod_add_4 : decode uMod_add.2.1 4 = .ok (.istore 4, 2) := by decide +kernel
theorem dMod_add_6 : decode uMod_add.2.1 6 = .ok (.iconst 0, 1) := by decide +kernel
theorem dMod_add_7 : decode uMod_add.2.1 7 = .ok (.istore 5, 2) := by decide +kernel
theorem dMod_add_9 : decode uMod_add.2.1 9 = .ok (.iload 5, 2) := by decide +kernel
theorem dMod_add_11 : decode uMod_add.2.1 11 = .ok (.bipush 6, 2) := by decide +kernel
theorem dMod_add_13 : decode uMod_add.2.1 13 = .ok (.if_icmp .ge 49, 3) := by decide +kernel
theorem dMod_add_16 : decode uMod_add.2.1 16 = .ok (.aload_n 0, 1) := by decide +kernel
theorem dMod_add_17 : decode uMod_add.2.1 17 = .ok (.getfield 144, 3) := by decide +kernel
theorem dMod_add_20 : decode uMod_add.2.1 20 = .ok (.iload_n 1, 1) := by decide +kernel
theorem dMod_add_21 : decode uMod_add.2.1 21 = .ok (.iaload, 1) := by decide +kernel
theorem dMod_add_22 : decode uMod_add.2.1 22 = .ok (.ifCond .le 40, 3) := by decide +kernel
theorem dMod_add_25 : decode uMod_add.2.1 25 = .ok (.aload_n 0, 1) := by decide +kernel
theorem dMod_add_26 : decode uMod_add.2.1 26 = .ok (.iload_n 1, 1) := by decide +kernel
theorem dMod_add_27 : decode uMod_add.2.1 27 = .ok (.invokevirtual 210, 3) := by decide +kernel
theorem dMod_add_30 : decode uMod_add.2.1 30 = .ok (.iload 4, 2) := by decide +kernel
theorem dMod_add_32 : decode uMod_add.2.1 32 = .ok (.iadd, 1) := by decide +kernel
theorem dMod_add_33 : decode uMod_add.2.1 33 = .ok (.aload_n 0, 1) := by decide +kernel
theorem dMod_add_34 : decode uMod_add.2.1 34 = .ok (.getfield 141, 3) := by decide +kernel
theorem dMod_add_37 : decode uMod_add.2.1 37 = .ok (.iload_n 1, 1) := by decide +kernel
theorem dMod_add_38 : decode uMod_add.2.1 38 = .ok (.iaload, 1) := by decide +kernel
theorem dMod_add_39 : decode uMod_add.2.1 39 = .ok (.if_icmp .le 23, 3) := by decide +kernel
theorem dMod_add_42 : decode uMod_add.2.1 42 = .ok (.aload_n 0, 1) := by decide +kernel
theorem dMod_add_43 : decode uMod_add.2.1 43 = .ok (.getfield 144, 3) := by decide +kernel
theorem dMod_add_46 : decode uMod_add.2.1 46 = .ok (.iload_n 1, 1) := by decide +kernel
theorem dMod_add_47 : decode uMod_add.2.1 47 = .ok (.aload_n 0, 1) := by decide +kernel
theorem dMod_add_48 : decode uMod_add.2.1 48 = .ok (.getfield 144, 3) := by decide +kernel
theorem dMod_add_51 : decode uMod_add.2.1 51 = .ok (.iload_n 1, 1) := by decide +kernel
theorem dMod_add_52 : decode uMod_add.2.1 52 = .ok (.iaload, 1) := by decide +kernel
theorem dMod_add_53 : decode uMod_add.2.1 53 = .ok (.iconst 1, 1) := by decide +kernel
theorem dMod_add_54 : decode uMod_add.2.1 54 = .ok (.isub, 1) := by decide +kernel
theorem dMod_add_55 : decode uMod_add.2.1 55 = .ok (.iastore, 1) := by decide +kernel
theorem dMod_add_56 : decode uMod_add.2.1 56 = .ok (.iinc 5 1, 3) := by decide +kernel
theorem dMod_add_59 : decode uMod_add.2.1 59 = .ok (.goto (-50), 3) := by decide +kernel
theorem dMod_add_62 : decode uMod_add.2.1 62 = .ok (.aload_n 0, 1) := by decide +kernel
theorem dMod_add_63 : decode uMod_add.2.1 63 = .ok (.iload_n 1, 1) := by decide +kernel
theorem dMod_add_64 : decode uMod_add.2.1 64 = .ok (.invokevirtual 210, 3) := by decide +kernel
theorem dMod_add_67 : decode uMod_add.2.1 67 = .ok (.iload 4, 2) := by decide +kernel
theorem dMod_add_69 : decode uMod_add.2.1 69 = .ok (.iadd, 1) := by decide +kernel
theorem dMod_add_70 : decode uMod_add.2.1 70 = .ok (.aload_n 0, 1) := by decide +kernel
theorem dMod_add_71 : decode uMod_add.2.1 71 = .ok (.getfield 141, 3) := by decide +kernel
theorem dMod_add_74 : decode uMod_add.2.1 74 = .ok (.iload_n 1, 1) := by decide +kernel
theorem dMod_add_75 : decode uMod_add.2.1 75 = .ok (.iaload, 1) := by decide +kernel
theorem dMod_add_76 : decode uMod_add.2.1 76 = .ok (.if_icmp .le 4, 3) := by decide +kernel
theorem dMod_add_79 : decode uMod_add.2.1 79 = .ok (.return_, 1) := by decide +kernel
theorem dMod_add_80 : decode uMod_add.2.1 80 = .ok (.aload_n 0, 1) := by decide +kernel
theorem dMod_add_81 : decode uMod_add.2.1 81 = .ok (.getfield 144, 3) := by decide +kernel
theorem dMod_add_84 : decode uMod_add.2.1 84 = .ok (.iload_n 1, 1) := by decide +kernel
theorem dMod_add_85 : decode uMod_add.2.1 85 = .ok (.iaload, 1) := by decide +kernel
theorem dMod_add_86 : decode uMod_add.2.1 86 = .ok (.istore 5, 2) := by decide +kernel
theorem dMod_add_88 : decode uMod_add.2.1 88 = .ok (.iload 5, 2) := by decide +kernel
theorem dMod_add_90 : decode uMod_add.2.1 90 = .ok (.ifCond .le 61, 3) := by decide +kernel
theorem dMod_add_93 : decode uMod_add.2.1 93 = .ok (.aload_n 0, 1) := by decide +kernel
theorem dMod_add_94 : decode uMod_add.2.1 94 = .ok (.getfield 147, 3) := by decide +kernel
theorem dMod_add_97 : decode uMod_add.2.1 97 = .ok (.bipush 6, 2) := by decide +kernel
theorem dMod_add_99 : decode uMod_add.2.1 99 = .ok (.iload_n 1, 1) := by decide +kernel
theorem dMod_add_100 : decode uMod_add.2.1 100 = .ok (.imul, 1) := by decide +kernel
theorem dMod_add_101 : decode uMod_add.2.1 101 = .ok (.iload 5, 2) := by decide +kernel
theorem dMod_add_103 : decode uMod_add.2.1 103 = .ok (.iadd, 1) := by decide +kernel
theorem dMod_add_104 : decode uMod_add.2.1 104 = .ok (.aload_n 0, 1) := by decide +kernel
theorem dMod_add_105 : decode uMod_add.2.1 105 = .ok (.getfield 147, 3) := by decide +kernel
theorem dMod_add_108 : decode uMod_add.2.1 108 = .ok (.bipush 6, 2) := by decide +kernel
theorem dMod_add_110 : decode uMod_add.2.1 110 = .ok (.iload_n 1, 1) := by decide +kernel
theorem dMod_add_111 : decode uMod_add.2.1 111 = .ok (.imul, 1) := by decide +kernel
theorem dMod_add_112 : decode uMod_add.2.1 112 = .ok (.iload 5, 2) := by decide +kernel
theorem dMod_add_114 : decode uMod_add.2.1 114 = .ok (.iadd, 1) := by decide +kernel
theorem dMod_add_115 : decode uMod_add.2.1 115 = .ok (.iconst 1, 1) := by decide +kernel
theorem dMod_add_116 : decode uMod_add.2.1 116 = .ok (.isub, 1) := by decide +kernel
theorem dMod_add_117 : decode uMod_add.2.1 117 = .ok (.iaload, 1) := by decide +kernel
theorem dMod_add_118 : decode uMod_add.2.1 118 = .ok (.iastore, 1) := by decide +kernel
theorem dMod_add_119 : decode uMod_add.2.1 119 = .ok (.aload_n 0, 1) := by decide +kernel
theorem dMod_add_120 : decode uMod_add.2.1 120 = .ok (.getfield 150, 3) := by decide +kernel
theorem dMod_add_123 : decode uMod_add.2.1 123 = .ok (.bipush 6, 2) := by decide +kernel
theorem dMod_add_125 : decode uMod_add.2.1 125 = .ok (.iload_n 1, 1) := by decide +kernel
theorem dMod_add_126 : decode uMod_add.2.1 126 = .ok (.imul, 1) := by decide +kernel
theorem dMod_add_127 : decode uMod_add.2.1 127 = .ok (.iload 5, 2) := by decide +kernel
theorem dMod_add_129 : decode uMod_add.2.1 129 = .ok (.iadd, 1) := by decide +kernel
theorem dMod_add_130 : decode uMod_add.2.1 130 = .ok (.aload_n 0, 1) := by decide +kernel
theorem dMod_add_131 : decode uMod_add.2.1 131 = .ok (.getfield 150, 3) := by decide +kernel
theorem dMod_add_134 : decode uMod_add.2.1 134 = .ok (.bipush 6, 2) := by decide +kernel
theorem dMod_add_136 : decode uMod_add.2.1 136 = .ok (.iload_n 1, 1) := by decide +kernel
theorem dMod_add_137 : decode uMod_add.2.1 137 = .ok (.imul, 1) := by decide +kernel
theorem dMod_add_138 : decode uMod_add.2.1 138 = .ok (.iload 5, 2) := by decide +kernel
theorem dMod_add_140 : decode uMod_add.2.1 140 = .ok (.iadd, 1) := by decide +kernel
theorem dMod_add_141 : decode uMod_add.2.1 141 = .ok (.iconst 1, 1) := by decide +kernel
theorem dMod_add_142 : decode uMod_add.2.1 142 = .ok (.isub, 1) := by decide +kernel
theorem dMod_add_143 : decode uMod_add.2.1 143 = .ok (.iaload, 1) := by decide +kernel
theorem dMod_add_144 : decode uMod_add.2.1 144 = .ok (.iastore, 1) := by decide +kernel
theorem dMod_add_145 : decode uMod_add.2.1 145 = .ok (.iinc 5 (-1), 3) := by decide +kernel
theorem dMod_add_148 : decode uMod_add.2.1 148 = .ok (.goto (-60), 3) := by decide +kernel
theorem dMod_add_151 : decode uMod_add.2.1 151 = .ok (.aload_n 0, 1) := by decide +kernel
theorem dMod_add_152 : decode uMod_add.2.1 152 = .ok (.getfield 147, 3) := by decide +kernel
theorem dMod_add_155 : decode uMod_add.2.1 155 = .ok (.bipush 6, 2) := by decide +kernel
theorem dMod_add_157 : decode uMod_add.2.1 157 = .ok (.iload_n 1, 1) := by decide +kernel
theorem dMod_add_158 : decode uMod_add.2.1 158 = .ok (.imul, 1) := by decide +kernel
theorem dMod_add_159 : decode uMod_add.2.1 159 = .ok (.iload_n 2, 1) := by decide +kernel
theorem dMod_add_160 : decode uMod_add.2.1 160 = .ok (.iastore, 1) := by decide +kernel
theorem dMod_add_161 : decode uMod_add.2.1 161 = .ok (.aload_n 0, 1) := by decide +kernel
theorem dMod_add_162 : decode uMod_add.2.1 162 = .ok (.getfield 150, 3) := by decide +kernel
theorem dMod_add_165 : decode uMod_add.2.1 165 = .ok (.bipush 6, 2) := by decide +kernel
theorem dMod_add_167 : decode uMod_add.2.1 167 = .ok (.iload_n 1, 1) := by decide +kernel
theorem dMod_add_168 : decode uMod_add.2.1 168 = .ok (.imul, 1) := by decide +kernel
theorem dMod_add_169 : decode uMod_add.2.1 169 = .ok (.iload_n 3, 1) := by decide +kernel
theorem dMod_add_170 : decode uMod_add.2.1 170 = .ok (.iastore, 1) := by decide +kernel
theorem dMod_add_171 : decode uMod_add.2.1 171 = .ok (.aload_n 0, 1) := by decide +kernel
theorem dMod_add_172 : decode uMod_add.2.1 172 = .ok (.getfield 144, 3) := by decide +kernel
theorem dMod_add_175 : decode uMod_add.2.1 175 = .ok (.iload_n 1, 1) := by decide +kernel
theorem dMod_add_176 : decode uMod_add.2.1 176 = .ok (.aload_n 0, 1) := by decide +kernel
theorem dMod_add_177 : decode uMod_add.2.1 177 = .ok (.getfield 144, 3) := by decide +kernel
theorem dMod_add_180 : decode uMod_add.2.1 180 = .ok (.iload_n 1, 1) := by decide +kernel
theorem dMod_add_181 : decode uMod_add.2.1 181 = .ok (.iaload, 1) := by decide +kernel
theorem dMod_add_182 : decode uMod_add.2.1 182 = .ok (.iconst 1, 1) := by decide +kernel
theorem dMod_add_183 : decode uMod_add.2.1 183 = .ok (.iadd, 1) := by decide +kernel
theorem dMod_add_184 : decode uMod_add.2.1 184 = .ok (.iastore, 1) := by decide +kernel
theorem dMod_add_185 : decode uMod_add.2.1 185 = .ok (.return_, 1) := by decide +kernel
theorem dMod_means_0 : decode uMod_means.2.1 0 = .ok (.iload_n 2, 1) := by decide +kernel
theorem dMod_means_1 : decode uMod_means.2.1 1 = .ok (.iconst 1, 1) := by decide +kernel
theorem dMod_means_2 : decode uMod_means.2.1 2 = .ok (.if_icmp .lt 20, 3) := by decide +kernel
theorem dMod_means_5 : decode uMod_means.2.1 5 = .ok (.iload_n 2, 1) := by decide +kernel
theorem dMod_means_6 : decode uMod_means.2.1 6 = .ok (.bipush 6, 2) := by decide +kernel
theorem dMod_means_8 : decode uMod_means.2.1 8 = .ok (.aload_n 0, 1) := by decide +kernel
theorem dMod_means_9 : decode uMod_means.2.1 9 = .ok (.getfield 144, 3) := by decide +kernel
theorem dMod_means_12 : decode uMod_means.2.1 12 = .ok (.iload_n 1, 1) := by decide +kernel
theorem dMod_means_13 : decode uMod_means.2.1 13 = .ok (.iaload, 1) := by decide +kernel
theorem dMod_means_14 : decode uMod_means.2.1 14 = .ok (.iadd, 1) := by decide +kernel
theorem dMod_means_15 : decode uMod_means.2.1 15 = .ok (.if_icmp .gt 7, 3) := by decide +kernel
theorem dMod_means_18 : decode uMod_means.2.1 18 = .ok (.iconst 1, 1) := by decide +kernel
theorem dMod_means_19 : decode uMod_means.2.1 19 = .ok (.goto 4, 3) := by decide +kernel
theorem dMod_means_22 : decode uMod_means.2.1 22 = .ok (.iconst 0, 1) := by decide +kernel
theorem dMod_means_23 : decode uMod_means.2.1 23 = .ok (.ireturn, 1) := by decide +kernel
theorem dMod_nameAt_0 : decode uMod_nameAt.2.1 0 = .ok (.iload_n 2, 1) := by decide +kernel
theorem dMod_nameAt_1 : decode uMod_nameAt.2.1 1 = .ok (.bipush 6, 2) := by decide +kernel
theorem dMod_nameAt_3 : decode uMod_nameAt.2.1 3 = .ok (.if_icmp .le 18, 3) := by decide +kernel
theorem dMod_nameAt_6 : decode uMod_nameAt.2.1 6 = .ok (.aload_n 0, 1) := by decide +kernel
theorem dMod_nameAt_7 : decode uMod_nameAt.2.1 7 = .ok (.getfield 147, 3) := by decide +kernel
theorem dMod_nameAt_10 : decode uMod_nameAt.2.1 10 = .ok (.bipush 6, 2) := by decide +kernel
theorem dMod_nameAt_12 : decode uMod_nameAt.2.1 12 = .ok (.iload_n 1, 1) := by decide +kernel
theorem dMod_nameAt_13 : decode uMod_nameAt.2.1 13 = .ok (.imul, 1) := by decide +kernel
theorem dMod_nameAt_14 : decode uMod_nameAt.2.1 14 = .ok (.iload_n 2, 1) := by decide +kernel
theorem dMod_nameAt_15 : decode uMod_nameAt.2.1 15 = .ok (.iadd, 1) := by decide +kernel
theorem dMod_nameAt_16 : decode uMod_nameAt.2.1 16 = .ok (.bipush 7, 2) := by decide +kernel
theorem dMod_nameAt_18 : decode uMod_nameAt.2.1 18 = .ok (.isub, 1) := by decide +kernel
theorem dMod_nameAt_19 : decode uMod_nameAt.2.1 19 = .ok (.iaload, 1) := by decide +kernel
theorem dMod_nameAt_20 : decode uMod_nameAt.2.1 20 = .ok (.ireturn, 1) := by decide +kernel
theorem dMod_nameAt_21 : decode uMod_nameAt.2.1 21 = .ok (.iload_n 2, 1) := by decide +kernel
theorem dMod_nameAt_22 : decode uMod_nameAt.2.1 22 = .ok (.iconst 3, 1) := by decide +kernel
theorem dMod_nameAt_23 : decode uMod_nameAt.2.1 23 = .ok (.if_icmp .ge 7, 3) := by decide +kernel
theorem dMod_nameAt_26 : decode uMod_nameAt.2.1 26 = .ok (.iconst 0, 1) := by decide +kernel
theorem dMod_nameAt_27 : decode uMod_nameAt.2.1 27 = .ok (.goto 23, 3) := by decide +kernel
theorem dMod_nameAt_30 : decode uMod_nameAt.2.1 30 = .ok (.iload_n 2, 1) := by decide +kernel
theorem dMod_nameAt_31 : decode uMod_nameAt.2.1 31 = .ok (.iconst 3, 1) := by decide +kernel
theorem dMod_nameAt_32 : decode uMod_nameAt.2.1 32 = .ok (.if_icmp .ne 7, 3) := by decide +kernel
theorem dMod_nameAt_35 : decode uMod_nameAt.2.1 35 = .ok (.iconst 1, 1) := by decide +kernel
theorem dMod_nameAt_36 : decode uMod_nameAt.2.1 36 = .ok (.goto 14, 3) := by decide +kernel
theorem dMod_nameAt_39 : decode uMod_nameAt.2.1 39 = .ok (.iload_n 2, 1) := by decide +kernel
theorem dMod_nameAt_40 : decode uMod_nameAt.2.1 40 = .ok (.bipush 6, 2) := by decide +kernel
theorem dMod_nameAt_42 : decode uMod_nameAt.2.1 42 = .ok (.if_icmp .ne 7, 3) := by decide +kernel
theorem dMod_nameAt_45 : decode uMod_nameAt.2.1 45 = .ok (.iconst 3, 1) := by decide +kernel
theorem dMod_nameAt_46 : decode uMod_nameAt.2.1 46 = .ok (.goto 4, 3) := by decide +kernel
theorem dMod_nameAt_49 : decode uMod_nameAt.2.1 49 = .ok (.iconst 2, 1) := by decide +kernel
theorem dMod_nameAt_50 : decode uMod_nameAt.2.1 50 = .ok (.ireturn, 1) := by decide +kernel
theorem dMod_valueAt_0 : decode uMod_valueAt.2.1 0 = .ok (.iload_n 2, 1) := by decide +kernel
theorem dMod_valueAt_1 : decode uMod_valueAt.2.1 1 = .ok (.bipush 6, 2) := by decide +kernel
theorem dMod_valueAt_3 : decode uMod_valueAt.2.1 3 = .ok (.if_icmp .le 18, 3) := by decide +kernel
theorem dMod_valueAt_6 : decode uMod_valueAt.2.1 6 = .ok (.aload_n 0, 1) := by decide +kernel
theorem dMod_valueAt_7 : decode uMod_valueAt.2.1 7 = .ok (.getfield 150, 3) := by decide +kernel
theorem dMod_valueAt_10 : decode uMod_valueAt.2.1 10 = .ok (.bipush 6, 2) := by decide +kernel
theorem dMod_valueAt_12 : decode uMod_valueAt.2.1 12 = .ok (.iload_n 1, 1) := by decide +kernel
theorem dMod_valueAt_13 : decode uMod_valueAt.2.1 13 = .ok (.imul, 1) := by decide +kernel
theorem dMod_valueAt_14 : decode uMod_valueAt.2.1 14 = .ok (.iload_n 2, 1) := by decide +kernel
theorem dMod_valueAt_15 : decode uMod_valueAt.2.1 15 = .ok (.iadd, 1) := by decide +kernel
theorem dMod_valueAt_16 : decode uMod_valueAt.2.1 16 = .ok (.bipush 7, 2) := by decide +kernel
theorem dMod_valueAt_18 : decode uMod_valueAt.2.1 18 = .ok (.isub, 1) := by decide +kernel
theorem dMod_valueAt_19 : decode uMod_valueAt.2.1 19 = .ok (.iaload, 1) := by decide +kernel
theorem dMod_valueAt_20 : decode uMod_valueAt.2.1 20 = .ok (.ireturn, 1) := by decide +kernel
theorem dMod_valueAt_21 : decode uMod_valueAt.2.1 21 = .ok (.iload_n 2, 1) := by decide +kernel
theorem dMod_valueAt_22 : decode uMod_valueAt.2.1 22 = .ok (.iconst 2, 1) := by decide +kernel
theorem dMod_valueAt_23 : decode uMod_valueAt.2.1 23 = .ok (.if_icmp .ne 7, 3) := by decide +kernel
theorem dMod_valueAt_26 : decode uMod_valueAt.2.1 26 = .ok (.iconst 1, 1) := by decide +kernel
theorem dMod_valueAt_27 : decode uMod_valueAt.2.1 27 = .ok (.goto 24, 3) := by decide +kernel
theorem dMod_valueAt_30 : decode uMod_valueAt.2.1 30 = .ok (.iload_n 2, 1) := by decide +kernel
theorem dMod_valueAt_31 : decode uMod_valueAt.2.1 31 = .ok (.iconst 4, 1) := by decide +kernel
theorem dMod_valueAt_32 : decode uMod_valueAt.2.1 32 = .ok (.if_icmp .ne 8, 3) := by decide +kernel
theorem dMod_valueAt_35 : decode uMod_valueAt.2.1 35 = .ok (.bipush 20, 2) := by decide +kernel
theorem dMod_valueAt_37 : decode uMod_valueAt.2.1 37 = .ok (.goto 14, 3) := by decide +kernel
theorem dMod_valueAt_40 : decode uMod_valueAt.2.1 40 = .ok (.iload_n 2, 1) := by decide +kernel
theorem dMod_valueAt_41 : decode uMod_valueAt.2.1 41 = .ok (.iconst 5, 1) := by decide +kernel
theorem dMod_valueAt_42 : decode uMod_valueAt.2.1 42 = .ok (.if_icmp .ne 8, 3) := by decide +kernel
theorem dMod_valueAt_45 : decode uMod_valueAt.2.1 45 = .ok (.bipush 40, 2) := by decide +kernel
theorem dMod_valueAt_47 : decode uMod_valueAt.2.1 47 = .ok (.goto 4, 3) := by decide +kernel
theorem dMod_valueAt_50 : decode uMod_valueAt.2.1 50 = .ok (.iconst 0, 1) := by decide +kernel
theorem dMod_valueAt_51 : decode uMod_valueAt.2.1 51 = .ok (.ireturn, 1) := by decide +kernel
theorem dMod_indexOf_0 : decode uMod_indexOf.2.1 0 = .ok (.iconst 1, 1) := by decide +kernel
theorem dMod_indexOf_1 : decode uMod_indexOf.2.1 1 = .ok (.istore 5, 2) := by decide +kernel
theorem dMod_indexOf_3 : decode uMod_indexOf.2.1 3 = .ok (.iload 5, 2) := by decide +kernel
theorem dMod_indexOf_5 : decode uMod_indexOf.2.1 5 = .ok (.bipush 6, 2) := by decide +kernel
theorem dMod_indexOf_7 : decode uMod_indexOf.2.1 7 = .ok (.aload_n 0, 1) := by decide +kernel
theorem dMod_indexOf_8 : decode uMod_indexOf.2.1 8 = .ok (.getfield 144, 3) := by decide +kernel
theorem dMod_indexOf_11 : decode uMod_indexOf.2.1 11 = .ok (.iload_n 1, 1) := by decide +kernel
theorem dMod_indexOf_12 : decode uMod_indexOf.2.1 12 = .ok (.iaload, 1) := by decide +kernel
theorem dMod_indexOf_13 : decode uMod_indexOf.2.1 13 = .ok (.iadd, 1) := by decide +kernel
theorem dMod_indexOf_14 : decode uMod_indexOf.2.1 14 = .ok (.if_icmp .gt 39, 3) := by decide +kernel
theorem dMod_indexOf_17 : decode uMod_indexOf.2.1 17 = .ok (.aload_n 0, 1) := by decide +kernel
theorem dMod_indexOf_18 : decode uMod_indexOf.2.1 18 = .ok (.iload_n 1, 1) := by decide +kernel
theorem dMod_indexOf_19 : decode uMod_indexOf.2.1 19 = .ok (.iload 5, 2) := by decide +kernel
theorem dMod_indexOf_21 : decode uMod_indexOf.2.1 21 = .ok (.invokevirtual 213, 3) := by decide +kernel
theorem dMod_indexOf_24 : decode uMod_indexOf.2.1 24 = .ok (.iload_n 2, 1) := by decide +kernel
theorem dMod_indexOf_25 : decode uMod_indexOf.2.1 25 = .ok (.if_icmp .ne 22, 3) := by decide +kernel
theorem dMod_indexOf_28 : decode uMod_indexOf.2.1 28 = .ok (.iload 4, 2) := by decide +kernel
theorem dMod_indexOf_30 : decode uMod_indexOf.2.1 30 = .ok (.ifCond .eq 14, 3) := by decide +kernel
theorem dMod_indexOf_33 : decode uMod_indexOf.2.1 33 = .ok (.aload_n 0, 1) := by decide +kernel
theorem dMod_indexOf_34 : decode uMod_indexOf.2.1 34 = .ok (.iload_n 1, 1) := by decide +kernel
theorem dMod_indexOf_35 : decode uMod_indexOf.2.1 35 = .ok (.iload 5, 2) := by decide +kernel
theorem dMod_indexOf_37 : decode uMod_indexOf.2.1 37 = .ok (.invokevirtual 216, 3) := by decide +kernel
theorem dMod_indexOf_40 : decode uMod_indexOf.2.1 40 = .ok (.iload_n 3, 1) := by decide +kernel
theorem dMod_indexOf_41 : decode uMod_indexOf.2.1 41 = .ok (.if_icmp .ne 6, 3) := by decide +kernel
theorem dMod_indexOf_44 : decode uMod_indexOf.2.1 44 = .ok (.iload 5, 2) := by decide +kernel
theorem dMod_indexOf_46 : decode uMod_indexOf.2.1 46 = .ok (.ireturn, 1) := by decide +kernel
theorem dMod_indexOf_47 : decode uMod_indexOf.2.1 47 = .ok (.iinc 5 1, 3) := by decide +kernel
theorem dMod_indexOf_50 : decode uMod_indexOf.2.1 50 = .ok (.goto (-47), 3) := by decide +kernel
theorem dMod_indexOf_53 : decode uMod_indexOf.2.1 53 = .ok (.iconst 0, 1) := by decide +kernel
theorem dMod_indexOf_54 : decode uMod_indexOf.2.1 54 = .ok (.ireturn, 1) := by decide +kernel
theorem fs_Mod_147 : fS "InterleavedLinkModel" 147 10 46 := ⟨"InterleavedLinkModel", T_Mod, 56, cf_Mod, by decide, Or.inl (gW_in 907 (by decide +kernel) rfl)⟩
theorem cs_Mod_213 : cV "InterleavedLinkModel" 213 uMod_nameAt 2 := ⟨⟨Or.inl (gW_in 1109 (by decide +kernel) rfl), (gW_in 74 (by decide +kernel) rfl), (gW_in 1112 (by decide +kernel) rfl), ⟨by decide, by decide⟩, by decide +kernel⟩, (gW_in 1111 (by decide +kernel) rfl), (gW_in 41 (by decide +kernel) rfl)⟩
theorem cs_Mod_216 : cV "InterleavedLinkModel" 216 uMod_valueAt 2 := ⟨⟨Or.inl (gW_in 1113 (by decide +kernel) rfl), (gW_in 74 (by decide +kernel) rfl), (gW_in 1116 (by decide +kernel) rfl), ⟨by decide, by decide⟩, by decide +kernel⟩, (gW_in 1115 (by decide +kernel) rfl), (gW_in 42 (by decide +kernel) rfl)⟩
/-! ===== the reference's tables over lists ===== -/
theorem suA_take {M : mM} {t : Nat} {L : List (Int32 × Int32)} {mx : Int32} (h : TbR M t L mx) : ∀ n, n ≤ L.length → suA M t n = sumT (L.take n)
  | 0, _ => rfl
  | n + 1, hn => by
    have hx : L[n]? = some L[n] := List.getElem?_eq_getElem (by omega)
    rw [List.take_succ, hx]
    show suA M t n + sizeZ (RtableValue M (6 * t + n)) = sumT (L.take n ++ [L[n]])
    rw [sumT_app, suA_take h n (by omega), (h.2.2.2 n _ hx).2, szV_eq]
theorem ct_rsum {X : mX} {l : Launch} {M : mM} {t : Nat} {L : List (Int32 × Int32)} {mx : Int32} (hS : Shp M) (ht : t < 4) (hB : TbR M t L mx) : Ct X l uMod_sum (rk 1 20) [.ref 169, .int (nI t)] M (fun r M' => r = some (.int (sumT L)) ∧ M' = M) := by
  have := suA_take hB L.length (Nat.le_refl _)
  rw [List.take_length] at this
  rw [← this]
  exact cm_sum hS ht hB.1 (by have := hB.2.1; omega)
theorem szV_nat (v : Int32) : ∃ n : Nat, szV v = nI n ∧ 34 ≤ n ∧ n ≤ 37 := by
  unfold szV
  split
  · exact ⟨37, rfl, by omega, by omega⟩
  · split
    · exact ⟨37, rfl, by omega, by omega⟩
    · split
      · exact ⟨36, rfl, by omega, by omega⟩
      · split
        · exact ⟨35, rfl, by omega, by omega⟩
        · exact ⟨34, rfl, by omega, by omega⟩
theorem sumT_nat : ∀ L : List (Int32 × Int32), ∃ n : Nat, sumT L = nI n ∧ 34 * L.length ≤ n ∧ n ≤ 37 * L.length
  | [] => ⟨0, rfl, by simp, by simp⟩
  | x :: L => by
    obtain ⟨n, h1, h2, h3⟩ := sumT_nat L
    obtain ⟨m, g1, g2, g3⟩ := szV_nat x.2
    refine ⟨m + n, ?_, by rw [List.length_cons]; omega, by rw [List.length_cons]; omega⟩
    show szV x.2 + sumT L = _
    rw [g1, h1, nI_add]
theorem nI_sub' {a b : Nat} (h : b ≤ a) : nI a - nI b = nI (a - b) := by
  have : nI a = nI (a - b) + nI b := by rw [nI_add, Nat.sub_add_cancel h]
  rw [this, Int32.add_sub_cancel]
/-- the sum is at most m less a size, where the sum and the size are at most m -/
theorem le_sub {L : List (Int32 × Int32)} {m : Nat} {v : Int32} (h5 : L.length ≤ 5) (hm : m ≤ 200) : sumT L ≤ nI m - szV v ↔ sumT L + szV v ≤ nI m := by
  obtain ⟨n, h1, h2, h3⟩ := sumT_nat L
  obtain ⟨s, g1, g2, g3⟩ := szV_nat v
  rw [h1, g1, nI_add, nI_leI (by omega) (by omega)]
  by_cases q : s ≤ m
  · rw [nI_sub' q, nI_leI (by omega) (by omega)]
    omega
  · have : (nI m - nI s).toInt = (m : Int) - s := by
      rw [Int32.toInt_sub, show (nI m).toInt = m from nI_toInt (by omega), show (nI s).toInt = s from nI_toInt (by omega)]
      rw [Int.bmod_eq_of_le (by omega) (by omega)]
    rw [Int32.le_iff_toInt_le, this, nI_toInt (by omega)]
    omega
set_option maxRecDepth 100000 in
set_option maxHeartbeats 4000000 in
theorem g_bnd {X : mX} {l : Launch} {M : mM} {t : Nat} {m : Int32} {Q : Option Value → mM → Prop} (ht : t < 4) (h0 : 0 ≤ m) : ∀ (n : Nat) (L : List (Int32 × Int32)) (k : Nat), L.length = n → k + n ≤ 5 → ∀ M1, Shp M1 → TbR M1 t L m → Chg M M1 (fun a j => ((a = 213 ∨ a = 214) ∧ j = t) ∨ ((a = 215 ∨ a = 216) ∧ 6 * t ≤ j ∧ j < 6 * t + 6)) no2 → (∀ M', TbR M' t (dropF m n L) m → Chg M M' (fun a j => ((a = 213 ∨ a = 214) ∧ j = t) ∨ ((a = 215 ∨ a = 216) ∧ 6 * t ≤ j ∧ j < 6 * t + 6)) no2 → Q none M') → G X l uMod_bound (rk 2 43) 0 0 M1 9 [some (.ref 169), some (.int (nI t)), some (.int m), some (.int (nI k))] [] Q
  | 0, L, k, hL, hk, M1, hS, hB, hC, hq => by
    have hnil : L = [] := List.length_eq_zero_iff.mp hL
    have hs0 : sumT L ≤ m := by rw [hnil]; exact h0
    refine g_iload_n 9 dMod_bound_9 rfl ?_
    refine g_bipush 10 (nI 6) dMod_bound_10 rfl ?_
    refine g_icmp_geN 12 44 dMod_bound_12 rfl (by omega) (by omega) (fun h12 => ?_) (fun h12 => ?_)
    · exact absurd h12 (by omega)
    · refine g_aload_n 15 dMod_bound_15 rfl ?_
      refine g_iload_n 16 dMod_bound_16 rfl ?_
      refine g_callV 17 [_] dMod_bound_17 cs_Mod_210 rfl (ci := 10) rfl (by decide) hS.mod rfl ⟨(Nat.le_of_ble_eq_true rfl), (Nat.le_of_ble_eq_true rfl)⟩ (Nat.le_of_ble_eq_true rfl) (ct_rsum hS ht hB) (Nat.le_of_ble_eq_true rfl) (Nat.le_of_ble_eq_true rfl) ?_
      rintro _ M2 ⟨rfl, hM2⟩
      rw [hM2]
      clear hM2 M2
      refine g_iload_n 20 dMod_bound_20 rfl ?_
      refine g_icmp_le 21 44 dMod_bound_21 rfl (fun h21 => ?_) (fun h21 => ?_)
      · exact g_vret 44 dMod_bound_44 rfl (hq M1 hB hC)
      · exact absurd hs0 h21
  | n + 1, L, k, hL, hk, M1, hS, hB, hC, hq => by
    have hn5 := hB.2.1
    refine g_iload_n 9 dMod_bound_9 rfl ?_
    refine g_bipush 10 (nI 6) dMod_bound_10 rfl ?_
    refine g_icmp_geN 12 44 dMod_bound_12 rfl (by omega) (by omega) (fun h12 => ?_) (fun h12 => ?_)
    · exact absurd h12 (by omega)
    · refine g_aload_n 15 dMod_bound_15 rfl ?_
      refine g_iload_n 16 dMod_bound_16 rfl ?_
      refine g_callV 17 [_] dMod_bound_17 cs_Mod_210 rfl (ci := 10) rfl (by decide) hS.mod rfl ⟨(Nat.le_of_ble_eq_true rfl), (Nat.le_of_ble_eq_true rfl)⟩ (Nat.le_of_ble_eq_true rfl) (ct_rsum hS ht hB) (Nat.le_of_ble_eq_true rfl) (Nat.le_of_ble_eq_true rfl) ?_
      rintro _ M2 ⟨rfl, hM2⟩
      rw [hM2]
      clear hM2 M2
      refine g_iload_n 20 dMod_bound_20 rfl ?_
      refine g_icmp_le 21 44 dMod_bound_21 rfl (fun h21 => ?_) (fun h21 => ?_)
      · exact g_vret 44 dMod_bound_44 rfl (hq M1 (by unfold dropF; rw [if_pos h21]; exact hB) hC)
      · refine g_aload_n 24 dMod_bound_24 rfl ?_
        refine g_getr 25 10 45 dMod_bound_25 fs_Mod_144 rfl hS.mod hS.R_size ?_
        refine g_iload_n 28 dMod_bound_28 rfl ?_
        refine g_aload_n 29 dMod_bound_29 rfl ?_
        refine g_getr 30 10 45 dMod_bound_30 fs_Mod_144 rfl hS.mod hS.R_size ?_
        refine g_iload_n 33 dMod_bound_33 rfl ?_
        refine g_ialdN 34 dMod_bound_34 hS.T_size (by omega) (by decide) ?_
        refine g_top (nI ((n + 1))) (hB.1.trans (by rw [hL])) ?_
        refine g_iconst 35 (nI 1) dMod_bound_35 rfl ?_
        refine g_isubN 36 dMod_bound_36 (by omega) ?_
        refine g_top (nI (n)) (rfl) ?_
        refine g_iastN 37 dMod_bound_37 hS.T_size (by omega) (by decide) ?_
        refine g_iincN 38 dMod_bound_38 rfl (by decide) rfl ?_
        refine g_goto 41 9 dMod_bound_41 rfl ?_
        refine g_bnd ht h0 n L.dropLast (k + 1) (by rw [List.length_dropLast]; omega) (by omega) _ hS ⟨?_, ?_, ?_, ?_⟩ (hC.setI (Or.inl (Or.inl ⟨Or.inr rfl, rfl⟩))) (fun M' h1 h2 => hq M' (by unfold dropF; rw [if_neg h21]; exact h1) h2)
        · show mI _ 214 t = _
          rw [mI_setI, up2_same, List.length_dropLast, hL]
          rfl
        · rw [List.length_dropLast]; omega
        · show mI _ 213 t = _
          rw [mI_setI, up2_a (by decide)]
          exact hB.2.2.1
        · intro j x hj
          have h1 := (List.getElem?_eq_some_iff.mp hj).1
          rw [List.length_dropLast] at h1
          rw [List.getElem?_dropLast, if_pos (by omega)] at hj
          have := hB.2.2.2 j x hj
          show mI _ 215 _ = _ ∧ mI _ 216 _ = _
          rw [mI_setI, up2_a (by decide), up2_a (by decide)]
          exact this
set_option maxRecDepth 100000 in
set_option maxHeartbeats 4000000 in
theorem ct_rbnd {X : mX} {l : Launch} {M : mM} {t : Nat} {L : List (Int32 × Int32)} {mx : Int32} (hS : Shp M) (ht : t < 4) (hB : TbR M t L mx) {m : Int32} (h0 : 0 ≤ m) : Ct X l uMod_bound (rk 2 43) [.ref 169, .int (nI t), .int m] M (fun r M' => r = none ∧ TbR M' t (dropT m L) m ∧ Chg M M' (fun a j => ((a = 213 ∨ a = 214) ∧ j = t) ∨ ((a = 215 ∨ a = 216) ∧ 6 * t ≤ j ∧ j < 6 * t + 6)) no2) := by
  refine Ct.of (by decide) (Nat.le_of_ble_eq_true rfl) ?_
  show G X l uMod_bound (rk 2 43) 0 0 M 0 [some (.ref 169), some (.int (nI t)), some (.int m), none] [] _
  refine g_aload_n 0 dMod_bound_0 rfl ?_
  refine g_getr 1 10 44 dMod_bound_1 fs_Mod_141 rfl hS.mod hS.R_maximum ?_
  refine g_iload_n 4 dMod_bound_4 rfl ?_
  refine g_iload_n 5 dMod_bound_5 rfl ?_
  refine g_iastN 6 dMod_bound_6 hS.T_maximum (by omega) (by decide) ?_
  refine g_iconst 7 (nI 0) dMod_bound_7 rfl ?_
  refine g_istore_n 8 dMod_bound_8 (by decide) rfl ?_
  have hn5 := hB.2.1
  exact g_bnd ht h0 L.length L 0 rfl (by omega) (setI M 213 t m) hS ⟨(sI_a (by decide)).trans hB.1, hn5, up2_same, fun j x hj => ⟨(sI_a (by decide)).trans (hB.2.2.2 j x hj).1, (sI_a (by decide)).trans (hB.2.2.2 j x hj).2⟩⟩ (Chg.rf.setI (Or.inl (Or.inl ⟨Or.inl rfl, rfl⟩))) fun M' h1 h2 => ⟨rfl, h1, h2⟩

set_option maxRecDepth 100000 in
set_option maxHeartbeats 4000000 in
theorem g_radd1 {X : mX} {l : Launch} {M : mM} {t mm : Nat} {a v : Int32} {Q : Option Value → mM → Prop} (ht : t < 4) (hm : mm ≤ 200) : ∀ (n : Nat) (L : List (Int32 × Int32)) (k : Nat), L.length = n → k + n ≤ 5 → ∀ M1, Shp M1 → TbR M1 t L (nI mm) → Chg M M1 (fun a j => ((a = 213 ∨ a = 214) ∧ j = t) ∨ ((a = 215 ∨ a = 216) ∧ 6 * t ≤ j ∧ j < 6 * t + 6)) no2 → (∀ M' x, Shp M' → TbR M' t (dropF (nI mm - szV v) n L) (nI mm) → Chg M M' (fun a j => ((a = 213 ∨ a = 214) ∧ j = t) ∨ ((a = 215 ∨ a = 216) ∧ 6 * t ≤ j ∧ j < 6 * t + 6)) no2 → G X l uMod_add (rk 2 43) 0 0 M' 62 [some (.ref 169), some (.int (nI t)), some (.int a), some (.int v), some (.int (szV v)), some (.int x)] [] Q) → G X l uMod_add (rk 2 43) 0 0 M1 9 [some (.ref 169), some (.int (nI t)), some (.int a), some (.int v), some (.int (szV v)), some (.int (nI k))] [] Q
  | 0, L, k, hL, hk, M1, hS, hB, hC, hq => by
    refine g_iload 9 dMod_add_9 rfl ?_
    refine g_bipush 11 (nI 6) dMod_add_11 rfl ?_
    refine g_icmp_geN 13 62 dMod_add_13 rfl (by omega) (by omega) (fun h13 => ?_) (fun h13 => ?_)
    · exact absurd h13 (by omega)
    · refine g_aload_n 16 dMod_add_16 rfl ?_
      refine g_getr 17 10 45 dMod_add_17 fs_Mod_144 rfl hS.mod hS.R_size ?_
      refine g_iload_n 20 dMod_add_20 rfl ?_
      refine g_ialdN 21 dMod_add_21 hS.T_size (by omega) (by decide) ?_
      refine g_top (nI (0)) (hB.1.trans (by rw [hL])) ?_
      refine g_if_leN 22 62 dMod_add_22 rfl (by omega) (fun h22 => ?_) (fun h22 => ?_)
      · exact hq M1 _ hS hB hC
      · exact absurd (Nat.le_refl 0) h22
  | n + 1, L, k, hL, hk, M1, hS, hB, hC, hq => by
    have hn5 := hB.2.1
    refine g_iload 9 dMod_add_9 rfl ?_
    refine g_bipush 11 (nI 6) dMod_add_11 rfl ?_
    refine g_icmp_geN 13 62 dMod_add_13 rfl (by omega) (by omega) (fun h13 => ?_) (fun h13 => ?_)
    · exact absurd h13 (by omega)
    · refine g_aload_n 16 dMod_add_16 rfl ?_
      refine g_getr 17 10 45 dMod_add_17 fs_Mod_144 rfl hS.mod hS.R_size ?_
      refine g_iload_n 20 dMod_add_20 rfl ?_
      refine g_ialdN 21 dMod_add_21 hS.T_size (by omega) (by decide) ?_
      refine g_top (nI ((n + 1))) (hB.1.trans (by rw [hL])) ?_
      refine g_if_leN 22 62 dMod_add_22 rfl (by omega) (fun h22 => ?_) (fun h22 => ?_)
      · exact absurd h22 (by omega)
      · refine g_aload_n 25 dMod_add_25 rfl ?_
        refine g_iload_n 26 dMod_add_26 rfl ?_
        refine g_callV 27 [_] dMod_add_27 cs_Mod_210 rfl (ci := 10) rfl (by decide) hS.mod rfl ⟨(Nat.le_of_ble_eq_true rfl), (Nat.le_of_ble_eq_true rfl)⟩ (Nat.le_of_ble_eq_true rfl) (ct_rsum hS ht hB) (Nat.le_of_ble_eq_true rfl) (Nat.le_of_ble_eq_true rfl) ?_
        rintro _ M2 ⟨rfl, hM2⟩
        rw [hM2]
        clear hM2 M2
        refine g_iload 30 dMod_add_30 rfl ?_
        refine g_iadd 32 dMod_add_32 ?_
        refine g_aload_n 33 dMod_add_33 rfl ?_
        refine g_getr 34 10 44 dMod_add_34 fs_Mod_141 rfl hS.mod hS.R_maximum ?_
        refine g_iload_n 37 dMod_add_37 rfl ?_
        refine g_ialdN 38 dMod_add_38 hS.T_maximum (by omega) (by decide) ?_
        refine g_top (nI mm) (hB.2.2.1) ?_
        refine g_icmp_le 39 62 dMod_add_39 rfl (fun h39 => ?_) (fun h39 => ?_)
        · exact hq M1 _ hS (by unfold dropF; rw [if_pos ((le_sub hn5 hm).mpr h39)]; exact hB) hC
        · refine g_aload_n 42 dMod_add_42 rfl ?_
          refine g_getr 43 10 45 dMod_add_43 fs_Mod_144 rfl hS.mod hS.R_size ?_
          refine g_iload_n 46 dMod_add_46 rfl ?_
          refine g_aload_n 47 dMod_add_47 rfl ?_
          refine g_getr 48 10 45 dMod_add_48 fs_Mod_144 rfl hS.mod hS.R_size ?_
          refine g_iload_n 51 dMod_add_51 rfl ?_
          refine g_ialdN 52 dMod_add_52 hS.T_size (by omega) (by decide) ?_
          refine g_top (nI ((n + 1))) (hB.1.trans (by rw [hL])) ?_
          refine g_iconst 53 (nI 1) dMod_add_53 rfl ?_
          refine g_isubN 54 dMod_add_54 (by omega) ?_
          refine g_top (nI (n)) (rfl) ?_
          refine g_iastN 55 dMod_add_55 hS.T_size (by omega) (by decide) ?_
          refine g_iincN 56 dMod_add_56 rfl (by decide) rfl ?_
          refine g_goto 59 9 dMod_add_59 rfl ?_
          refine g_radd1 ht hm n L.dropLast (k + 1) (by rw [List.length_dropLast]; omega) (by omega) _ hS ⟨?_, ?_, ?_, ?_⟩ (hC.setI (Or.inl (Or.inl ⟨Or.inr rfl, rfl⟩))) (fun M' x h0 h1 h2 => hq M' x h0 (by unfold dropF; rw [if_neg (fun q => h39 ((le_sub hn5 hm).mp q))]; exact h1) h2)
          · show mI _ 214 t = _
            rw [mI_setI, up2_same, List.length_dropLast, hL]
            rfl
          · rw [List.length_dropLast]; omega
          · show mI _ 213 t = _
            rw [mI_setI, up2_a (by decide)]
            exact hB.2.2.1
          · intro j x hj
            have h1 := (List.getElem?_eq_some_iff.mp hj).1
            rw [List.length_dropLast] at h1
            rw [List.getElem?_dropLast, if_pos (by omega)] at hj
            have := hB.2.2.2 j x hj
            show mI _ 215 _ = _ ∧ mI _ 216 _ = _
            rw [mI_setI, up2_a (by decide), up2_a (by decide)]
            exact this
def shJ (M M1 : mM) (t c k : Nat) : Prop := Chg M M1 (fun a j => (a = 215 ∨ a = 216) ∧ 6 * t ≤ j ∧ j < 6 * t + 6) no2 ∧ ∀ a, (a = 215 ∨ a = 216) → ∀ j, j ≤ c → mI M1 a (6 * t + j) = if k < j then mI M a (6 * t + j - 1) else mI M a (6 * t + j)
theorem shJ_st {M M1 : mM} {t c k : Nat} (hc : c < 6) (hk : k + 1 ≤ c) (h : shJ M M1 t c (k + 1)) : shJ M (setI (setI M1 215 (6 * t + (k + 1)) (mI M1 215 (6 * t + k))) 216 (6 * t + (k + 1)) (mI M1 216 (6 * t + k))) t c k := by
  refine ⟨(h.1.setI (Or.inl ⟨Or.inl rfl, by omega, by omega⟩)).setI (Or.inl ⟨Or.inr rfl, by omega, by omega⟩), fun a ha j hj => ?_⟩
  have hb := h.2 a ha j hj
  have hp := h.2 a ha k (by omega)
  rw [if_neg (by omega)] at hp
  simp only [mI_setI, up2]
  by_cases q : j = k + 1
  · subst q
    rw [show (if k < k + 1 then mI M a (6 * t + (k + 1) - 1) else mI M a (6 * t + (k + 1))) = mI M a (6 * t + k) from if_pos (Nat.lt_succ_self k)]
    rcases ha with rfl | rfl
    · rw [if_neg (by omega), if_pos ⟨rfl, rfl⟩]; exact hp
    · rw [if_pos ⟨rfl, rfl⟩]; exact hp
  · rw [if_neg (by omega), if_neg (by omega), hb]
    by_cases q2 : k < j
    · rw [if_pos q2, if_pos (by omega)]
    · rw [if_neg q2, if_neg (by omega)]
theorem raddEnd {M M2 : mM} {t : Nat} {L : List (Int32 × Int32)} {mx a v : Int32} (hN : 223 ≤ mN M) (hB : TbR M t L mx) (hI : shJ M M2 t L.length 0) (h5 : L.length < 5) : TbR (setI (setI (setI M2 215 (6 * t) a) 216 (6 * t) v) 214 t (nI (L.length + 1))) t ((a, v) :: L) mx := by
  refine ⟨?_, by rw [List.length_cons]; omega, ?_, fun j x hj => ?_⟩
  · show mI _ 214 t = _
    rw [mI_setI, up2_same, List.length_cons]
  · show mI _ 213 t = _
    simp only [mI_setI]
    rw [up2_a (by decide), up2_a (by decide), up2_a (by decide), hI.1.2.2.1 213 t (by omega) (by omega)]
    exact hB.2.2.1
  · show mI _ 215 _ = _ ∧ mI _ 216 _ = _
    rcases j with _ | j
    · have hx : (a, v) = x := by simpa using hj
      subst hx
      simp only [Nat.add_zero]
      exact ⟨by rw [sI_a (by decide), sI_a (by decide), sI_s], by rw [sI_a (by decide), sI_s]⟩
    · rw [List.getElem?_cons_succ] at hj
      have hlt := (List.getElem?_eq_some_iff.mp hj).1
      obtain ⟨g1, g2⟩ := hB.2.2.2 j x hj
      have e1 := hI.2 215 (Or.inl rfl) (j + 1) (by omega)
      have e2 := hI.2 216 (Or.inr rfl) (j + 1) (by omega)
      rw [if_pos (by omega), show 6 * t + (j + 1) - 1 = 6 * t + j by omega] at e1 e2
      exact ⟨by rw [sI_a (by decide), sI_a (by decide), sI_k (by omega)]; exact e1.trans g1, by rw [sI_a (by decide), sI_k (by omega), sI_a (by decide)]; exact e2.trans g2⟩
set_option maxRecDepth 100000 in
set_option maxHeartbeats 4000000 in
theorem g_radd2 {X : mX} {l : Launch} {M : mM} {t c : Nat} {a v z : Int32} {Q : Option Value → mM → Prop} (hSM : Shp M) (ht : t < 4) (hc : c < 5) (hq : ∀ M', shJ M M' t c 0 → Shp M' → G X l uMod_add (rk 2 43) 0 0 M' 151 [some (.ref 169), some (.int (nI t)), some (.int a), some (.int v), some (.int z), some (.int (nI 0))] [] Q) : ∀ (k : Nat), k ≤ c → ∀ M1, Shp M1 → shJ M M1 t c k → G X l uMod_add (rk 2 43) 0 0 M1 88 [some (.ref 169), some (.int (nI t)), some (.int a), some (.int v), some (.int z), some (.int (nI k))] [] Q
  | 0, hk, M1, hS, hI => by
    refine g_iload 88 dMod_add_88 rfl ?_
    refine g_if_leN 90 151 dMod_add_90 rfl (by omega) (fun h90 => ?_) (fun h90 => ?_)
    · exact hq M1 hI hS
    · exact absurd (Nat.le_refl 0) h90
  | k + 1, hk, M1, hS, hI => by
    refine g_iload 88 dMod_add_88 rfl ?_
    refine g_if_leN 90 151 dMod_add_90 rfl (by omega) (fun h90 => ?_) (fun h90 => ?_)
    · exact absurd h90 (by omega)
    · refine g_aload_n 93 dMod_add_93 rfl ?_
      refine g_getr 94 10 46 dMod_add_94 fs_Mod_147 rfl hS.mod hS.R_tableName ?_
      refine g_bipush 97 (nI 6) dMod_add_97 rfl ?_
      refine g_iload_n 99 dMod_add_99 rfl ?_
      refine g_imulN 100 dMod_add_100 ?_
      refine g_iload 101 dMod_add_101 rfl ?_
      refine g_iaddN 103 dMod_add_103 ?_
      refine g_aload_n 104 dMod_add_104 rfl ?_
      refine g_getr 105 10 46 dMod_add_105 fs_Mod_147 rfl hS.mod hS.R_tableName ?_
      refine g_bipush 108 (nI 6) dMod_add_108 rfl ?_
      refine g_iload_n 110 dMod_add_110 rfl ?_
      refine g_imulN 111 dMod_add_111 ?_
      refine g_iload 112 dMod_add_112 rfl ?_
      refine g_iaddN 114 dMod_add_114 ?_
      refine g_iconst 115 (nI 1) dMod_add_115 rfl ?_
      refine g_isubN 116 dMod_add_116 (by omega) ?_
      refine g_top (nI ((6 * t + k))) (by rw [show 6 * t + (k + 1) - 1 = 6 * t + k by omega]) ?_
      refine g_ialdN 117 dMod_add_117 hS.T_tableName (by omega) (by decide) ?_
      refine g_iastN 118 dMod_add_118 hS.T_tableName (by omega) (by decide) ?_
      refine g_aload_n 119 dMod_add_119 rfl ?_
      refine g_getr 120 10 47 dMod_add_120 fs_Mod_150 rfl hS.mod hS.R_tableValue ?_
      refine g_bipush 123 (nI 6) dMod_add_123 rfl ?_
      refine g_iload_n 125 dMod_add_125 rfl ?_
      refine g_imulN 126 dMod_add_126 ?_
      refine g_iload 127 dMod_add_127 rfl ?_
      refine g_iaddN 129 dMod_add_129 ?_
      refine g_aload_n 130 dMod_add_130 rfl ?_
      refine g_getr 131 10 47 dMod_add_131 fs_Mod_150 rfl hS.mod hS.R_tableValue ?_
      refine g_bipush 134 (nI 6) dMod_add_134 rfl ?_
      refine g_iload_n 136 dMod_add_136 rfl ?_
      refine g_imulN 137 dMod_add_137 ?_
      refine g_iload 138 dMod_add_138 rfl ?_
      refine g_iaddN 140 dMod_add_140 ?_
      refine g_iconst 141 (nI 1) dMod_add_141 rfl ?_
      refine g_isubN 142 dMod_add_142 (by omega) ?_
      refine g_top (nI ((6 * t + k))) (by rw [show 6 * t + (k + 1) - 1 = 6 * t + k by omega]) ?_
      refine g_ialdN 143 dMod_add_143 hS.T_tableValue (by omega) (by decide) ?_
      refine g_top (mI M1 216 (6 * t + k)) (sI_a (by decide)) ?_
      refine g_iastN 144 dMod_add_144 hS.T_tableValue (by omega) (by decide) ?_
      refine g_iincM 145 dMod_add_145 rfl (by decide) rfl ?_
      refine g_goto 148 88 dMod_add_148 rfl ?_
      exact g_radd2 hSM ht hc hq k (by omega) _ hS (shJ_st (by omega) hk hI)
set_option maxRecDepth 100000 in
set_option maxHeartbeats 4000000 in
theorem g_radd3 {X : mX} {l : Launch} {M M2 : mM} {t : Nat} {L : List (Int32 × Int32)} {mx a v z : Int32} {Q : Option Value → mM → Prop} (hSM : Shp M) (ht : t < 4) (hB : TbR M t L mx) (hI : shJ M M2 t L.length 0) (hS : Shp M2) (h5 : L.length < 5) (hq : ∀ M', TbR M' t ((a, v) :: L) mx → Chg M M' (fun a j => ((a = 213 ∨ a = 214) ∧ j = t) ∨ ((a = 215 ∨ a = 216) ∧ 6 * t ≤ j ∧ j < 6 * t + 6)) no2 → Q none M') : G X l uMod_add (rk 2 43) 0 0 M2 151 [some (.ref 169), some (.int (nI t)), some (.int a), some (.int v), some (.int z), some (.int (nI 0))] [] Q := by
  have hc3 : mI M2 214 t = nI L.length := (hI.1.2.2.1 214 t (by have := hSM.1; omega) (by omega)).trans hB.1
  refine g_aload_n 151 dMod_add_151 rfl ?_
  refine g_getr 152 10 46 dMod_add_152 fs_Mod_147 rfl hS.mod hS.R_tableName ?_
  refine g_bipush 155 (nI 6) dMod_add_155 rfl ?_
  refine g_iload_n 157 dMod_add_157 rfl ?_
  refine g_imulN 158 dMod_add_158 ?_
  refine g_iload_n 159 dMod_add_159 rfl ?_
  refine g_iastN 160 dMod_add_160 hS.T_tableName (by omega) (by decide) ?_
  refine g_aload_n 161 dMod_add_161 rfl ?_
  refine g_getr 162 10 47 dMod_add_162 fs_Mod_150 rfl hS.mod hS.R_tableValue ?_
  refine g_bipush 165 (nI 6) dMod_add_165 rfl ?_
  refine g_iload_n 167 dMod_add_167 rfl ?_
  refine g_imulN 168 dMod_add_168 ?_
  refine g_iload_n 169 dMod_add_169 rfl ?_
  refine g_iastN 170 dMod_add_170 hS.T_tableValue (by omega) (by decide) ?_
  refine g_aload_n 171 dMod_add_171 rfl ?_
  refine g_getr 172 10 45 dMod_add_172 fs_Mod_144 rfl hS.mod hS.R_size ?_
  refine g_iload_n 175 dMod_add_175 rfl ?_
  refine g_aload_n 176 dMod_add_176 rfl ?_
  refine g_getr 177 10 45 dMod_add_177 fs_Mod_144 rfl hS.mod hS.R_size ?_
  refine g_iload_n 180 dMod_add_180 rfl ?_
  refine g_ialdN 181 dMod_add_181 hS.T_size (by omega) (by decide) ?_
  refine g_top (nI (L.length)) ((sI_a (by decide)).trans ((sI_a (by decide)).trans hc3)) ?_
  refine g_iconst 182 (nI 1) dMod_add_182 rfl ?_
  refine g_iaddN 183 dMod_add_183 ?_
  refine g_iastN 184 dMod_add_184 hS.T_size (by omega) (by decide) ?_
  exact g_vret 185 dMod_add_185 rfl (hq _ (raddEnd hSM.1 hB hI h5) ((((hI.1.mono (fun a j q => Or.inr q) fun _ _ q => q).setI (Or.inl (by omega))).setI (Or.inl (by omega))).setI (Or.inl (by omega))))
theorem ct_rsz {X : mX} {l : Launch} {M : mM} {v : Int32} : Ct X l uMod_sizeOf (rk 0 0) [.int v] M (fun r M' => r = some (.int (szV v)) ∧ M' = M) := by rw [szV_eq]; exact ct_Mod_sizeOf
set_option maxRecDepth 100000 in
set_option maxHeartbeats 4000000 in
theorem g_radd4 {X : mX} {l : Launch} {M : mM} {t mm : Nat} {L0 : List (Int32 × Int32)} {a v x : Int32} {Q : Option Value → mM → Prop} (ht : t < 4) (hm : mm ≤ 200) (hS : Shp M) (hB : TbR M t (dropT (nI mm - szV v) L0) (nI mm)) (hq : ∀ M', TbR M' t (addT L0 (nI mm) a v) (nI mm) → Chg M M' (fun a j => ((a = 213 ∨ a = 214) ∧ j = t) ∨ ((a = 215 ∨ a = 216) ∧ 6 * t ≤ j ∧ j < 6 * t + 6)) no2 → Q none M') : G X l uMod_add (rk 2 43) 0 0 M 62 [some (.ref 169), some (.int (nI t)), some (.int a), some (.int v), some (.int (szV v)), some (.int x)] [] Q := by
  have hl5 := hB.2.1
  refine g_aload_n 62 dMod_add_62 rfl ?_
  refine g_iload_n 63 dMod_add_63 rfl ?_
  refine g_callV 64 [_] dMod_add_64 cs_Mod_210 rfl (ci := 10) rfl (by decide) hS.mod rfl ⟨(Nat.le_of_ble_eq_true rfl), (Nat.le_of_ble_eq_true rfl)⟩ (Nat.le_of_ble_eq_true rfl) (ct_rsum hS ht hB) (Nat.le_of_ble_eq_true rfl) (Nat.le_of_ble_eq_true rfl) ?_
  rintro _ M2 ⟨rfl, hM2⟩
  rw [hM2]
  clear hM2 M2
  refine g_iload 67 dMod_add_67 rfl ?_
  refine g_iadd 69 dMod_add_69 ?_
  refine g_aload_n 70 dMod_add_70 rfl ?_
  refine g_getr 71 10 44 dMod_add_71 fs_Mod_141 rfl hS.mod hS.R_maximum ?_
  refine g_iload_n 74 dMod_add_74 rfl ?_
  refine g_ialdN 75 dMod_add_75 hS.T_maximum (by omega) (by decide) ?_
  refine g_top (nI mm) (hB.2.2.1) ?_
  refine g_icmp_le 76 80 dMod_add_76 rfl (fun h76 => ?_) (fun h76 => ?_)
  · refine g_aload_n 80 dMod_add_80 rfl ?_
    refine g_getr 81 10 45 dMod_add_81 fs_Mod_144 rfl hS.mod hS.R_size ?_
    refine g_iload_n 84 dMod_add_84 rfl ?_
    refine g_ialdN 85 dMod_add_85 hS.T_size (by omega) (by decide) ?_
    refine g_top (nI ((dropT (nI mm - szV v) L0).length)) (hB.1) ?_
    refine g_istore 86 dMod_add_86 (by decide) rfl ?_
    have h5 : (dropT (nI mm - szV v) L0).length < 5 := by
      obtain ⟨n, h1, h2, h3⟩ := sumT_nat (dropT (nI mm - szV v) L0)
      obtain ⟨s, g1, g2, g3⟩ := szV_nat v
      rw [h1, g1, nI_add, nI_leI (by omega) (by omega)] at h76
      omega
    refine g_radd2 hS ht h5 (fun M2 hI2 hS2 => ?_) _ (Nat.le_refl _) M hS ⟨Chg.rf, fun a _ j hj => by rw [if_neg (by omega)]⟩
    exact g_radd3 hS ht hB hI2 hS2 h5 (fun M3 h1 h2 => hq M3 (by unfold addT; rw [if_neg (fun q => absurd h76 (Int32.not_le.mpr q)), if_pos h5]; exact h1) h2)
  · exact g_vret 79 dMod_add_79 rfl (hq M (by unfold addT; rw [if_pos (Int32.not_le.mp h76)]; exact hB) Chg.rf)
set_option maxRecDepth 100000 in
set_option maxHeartbeats 4000000 in
theorem ct_radd {X : mX} {l : Launch} {M : mM} {t : Nat} {L : List (Int32 × Int32)} {mm : Nat} (hS : Shp M) (ht : t < 4) (hB : TbR M t L (nI mm)) {a v : Int32} (hm : mm ≤ 200) : Ct X l uMod_add (rk 2 43) [.ref 169, .int (nI t), .int a, .int v] M (fun r M' => r = none ∧ TbR M' t (addT L (nI mm) a v) (nI mm) ∧ Chg M M' (fun a j => ((a = 213 ∨ a = 214) ∧ j = t) ∨ ((a = 215 ∨ a = 216) ∧ 6 * t ≤ j ∧ j < 6 * t + 6)) no2) := by
  refine Ct.of (by decide) (Nat.le_of_ble_eq_true rfl) ?_
  show G X l uMod_add (rk 2 43) 0 0 M 0 [some (.ref 169), some (.int (nI t)), some (.int a), some (.int v), none, none] [] _
  have hn5 := hB.2.1
  refine g_iload_n 0 dMod_add_0 rfl ?_
  refine g_callS 1 [_] dMod_add_1 cs_Mod_207 rfl rfl ⟨(Nat.le_of_ble_eq_true rfl), (Nat.le_of_ble_eq_true rfl)⟩ (Nat.le_of_ble_eq_true rfl) (ct_rsz) (Nat.le_of_ble_eq_true rfl) (Nat.le_of_ble_eq_true rfl) ?_
  rintro _ M2 ⟨rfl, hM2⟩
  rw [hM2]
  clear hM2 M2
  refine g_istore 4 dMod_add_4 (by decide) rfl ?_
  refine g_iconst 6 (nI 0) dMod_add_6 rfl ?_
  refine g_istore 7 dMod_add_7 (by decide) rfl ?_
  refine g_radd1 ht hm L.length L 0 rfl (by omega) M hS hB Chg.rf (fun M1 x hS1 hB1 hC1 => ?_)
  have hl5 : (dropT (nI mm - szV v) L).length ≤ 5 := Nat.le_trans (dropT_len _ _) hn5
  exact g_radd4 ht hm hS1 hB1 (fun M' h1 h2 => ⟨rfl, h1, hC1.tr h2⟩)

set_option maxRecDepth 100000 in
set_option maxHeartbeats 4000000 in
theorem ct_rmeans {X : mX} {l : Launch} {M : mM} {t : Nat} {L : List (Int32 × Int32)} {mx : Int32} (hS : Shp M) (ht : t < 4) (hB : TbR M t L mx) {x : Int32} : Ct X l uMod_means (rk 0 0) [.ref 169, .int (nI t), .int x] M (fun r M' => r = some (.int (hiT L x)) ∧ M' = M) := by
  refine Ct.of (by decide) (Nat.le_of_ble_eq_true rfl) ?_
  show G X l uMod_means (rk 0 0) 0 0 M 0 [some (.ref 169), some (.int (nI t)), some (.int x)] [] _
  refine g_iload_n 0 dMod_means_0 rfl ?_
  refine g_iconst 1 1 dMod_means_1 rfl ?_
  refine g_icmp_lt 2 22 dMod_means_2 rfl (fun h2 => ?_) (fun h2 => ?_)
  · refine g_iconst 22 0 dMod_means_22 rfl ?_
    exact g_zret 23 dMod_means_23 rfl (by decide) ⟨by first | (simp only [hiT, *, if_true, if_false, not_true_eq_false, not_false_eq_true, and_true, true_and, and_false, false_and, and_self, reduceIte]; done) | (simp_all [hiT]; done), rfl⟩
  · refine g_iload_n 5 dMod_means_5 rfl ?_
    refine g_bipush 6 6 dMod_means_6 rfl ?_
    refine g_aload_n 8 dMod_means_8 rfl ?_
    refine g_getr 9 10 45 dMod_means_9 fs_Mod_144 rfl hS.mod hS.R_size ?_
    refine g_iload_n 12 dMod_means_12 rfl ?_
    refine g_ialdN 13 dMod_means_13 hS.T_size (by omega) (by decide) ?_
    refine g_top (nI L.length) (hB.1) ?_
    refine g_iadd 14 dMod_means_14 ?_
    refine g_icmp_gt 15 22 dMod_means_15 rfl (fun h15 => ?_) (fun h15 => ?_)
    · refine g_iconst 22 0 dMod_means_22 rfl ?_
      exact g_zret 23 dMod_means_23 rfl (by decide) ⟨by first | (simp only [hiT, *, if_true, if_false, not_true_eq_false, not_false_eq_true, and_true, true_and, and_false, false_and, and_self, reduceIte]; done) | (simp_all [hiT]; done), rfl⟩
    · refine g_iconst 18 1 dMod_means_18 rfl ?_
      refine g_goto 19 23 dMod_means_19 rfl ?_
      exact g_zret 23 dMod_means_23 rfl (by decide) ⟨by first | (simp only [hiT, *, if_true, if_false, not_true_eq_false, not_false_eq_true, and_true, true_and, and_false, false_and, and_self, reduceIte]; done) | (simp_all [hiT]; done), rfl⟩

theorem fix6 : ∀ i, 1 ≤ i → i ≤ 6 → (fixN (i - 1) = if i < 3 then 0 else if i = 3 then 1 else if i = 6 then 3 else 2) ∧ (fixV (i - 1) = if i = 2 then 1 else if i = 4 then 20 else if i = 5 then 40 else 0) := by
  intro i h1 h6
  rcases (by omega : i = 1 ∨ i = 2 ∨ i = 3 ∨ i = 4 ∨ i = 5 ∨ i = 6) with rfl | rfl | rfl | rfl | rfl | rfl <;> decide
theorem TbR.nm {M : mM} {t i : Nat} {L : List (Int32 × Int32)} {mx : Int32} (h : TbR M t L mx) (h1 : 6 < i) (h2 : i ≤ 6 + L.length) : mI M 215 (6 * t + i - 7) = nmT L i ∧ mI M 216 (6 * t + i - 7) = vlT L i := by
  have hj : L[i - 7]? = some L[i - 7] := List.getElem?_eq_getElem (by omega)
  have := h.2.2.2 (i - 7) _ hj
  unfold nmT vlT
  rw [if_neg (by omega), if_neg (by omega), hj, show 6 * t + i - 7 = 6 * t + (i - 7) by omega]
  exact this
set_option maxRecDepth 100000 in
set_option maxHeartbeats 4000000 in
theorem ct_rnm {X : mX} {l : Launch} {M : mM} {t : Nat} {L : List (Int32 × Int32)} {mx : Int32} (hS : Shp M) (ht : t < 4) (hB : TbR M t L mx) {i : Nat} (h1 : 1 ≤ i) (h2 : i ≤ 6 + L.length) : Ct X l uMod_nameAt (rk 0 0) [.ref 169, .int (nI t), .int (nI i)] M (fun r M' => r = some (.int (nmT L i)) ∧ M' = M) := by
  refine Ct.of (by decide) (Nat.le_of_ble_eq_true rfl) ?_
  show G X l uMod_nameAt (rk 0 0) 0 0 M 0 [some (.ref 169), some (.int (nI t)), some (.int (nI i))] [] _
  have hn5 := hB.2.1
  refine g_iload_n 0 dMod_nameAt_0 rfl ?_
  refine g_bipush 1 (nI 6) dMod_nameAt_1 rfl ?_
  refine g_icmp_leN 3 21 dMod_nameAt_3 rfl (by omega) (by omega) (fun h3 => ?_) (fun h3 => ?_)
  · refine g_iload_n 21 dMod_nameAt_21 rfl ?_
    refine g_iconst 22 (nI 3) dMod_nameAt_22 rfl ?_
    refine g_icmp_geN 23 30 dMod_nameAt_23 rfl (by omega) (by omega) (fun h23 => ?_) (fun h23 => ?_)
    · refine g_iload_n 30 dMod_nameAt_30 rfl ?_
      refine g_iconst 31 (nI 3) dMod_nameAt_31 rfl ?_
      refine g_icmp_neN 32 39 dMod_nameAt_32 rfl (by omega) (by omega) (fun h32 => ?_) (fun h32 => ?_)
      · refine g_iload_n 39 dMod_nameAt_39 rfl ?_
        refine g_bipush 40 (nI 6) dMod_nameAt_40 rfl ?_
        refine g_icmp_neN 42 49 dMod_nameAt_42 rfl (by omega) (by omega) (fun h42 => ?_) (fun h42 => ?_)
        · refine g_iconst 49 2 dMod_nameAt_49 rfl ?_
          exact g_iret 50 dMod_nameAt_50 rfl ⟨by congr 2; unfold nmT; rw [if_pos h3]; have := (fix6 i h1 h3).1; simp_all, rfl⟩
        · refine g_iconst 45 3 dMod_nameAt_45 rfl ?_
          refine g_goto 46 50 dMod_nameAt_46 rfl ?_
          exact g_iret 50 dMod_nameAt_50 rfl ⟨by congr 2; unfold nmT; rw [if_pos h3]; have := (fix6 i h1 h3).1; simp_all, rfl⟩
      · refine g_iconst 35 1 dMod_nameAt_35 rfl ?_
        refine g_goto 36 50 dMod_nameAt_36 rfl ?_
        exact g_iret 50 dMod_nameAt_50 rfl ⟨by congr 2; unfold nmT; rw [if_pos h3]; have := (fix6 i h1 h3).1; simp_all, rfl⟩
    · refine g_iconst 26 0 dMod_nameAt_26 rfl ?_
      refine g_goto 27 50 dMod_nameAt_27 rfl ?_
      exact g_iret 50 dMod_nameAt_50 rfl ⟨by congr 2; unfold nmT; rw [if_pos h3]; have := (fix6 i h1 h3).1; simp_all, rfl⟩
  · refine g_aload_n 6 dMod_nameAt_6 rfl ?_
    refine g_getr 7 10 46 dMod_nameAt_7 fs_Mod_147 rfl hS.mod hS.R_tableName ?_
    refine g_bipush 10 (nI 6) dMod_nameAt_10 rfl ?_
    refine g_iload_n 12 dMod_nameAt_12 rfl ?_
    refine g_imulN 13 dMod_nameAt_13 ?_
    refine g_iload_n 14 dMod_nameAt_14 rfl ?_
    refine g_iaddN 15 dMod_nameAt_15 ?_
    refine g_bipush 16 (nI 7) dMod_nameAt_16 rfl ?_
    refine g_isubN 18 dMod_nameAt_18 (by omega) ?_
    refine g_ialdN 19 dMod_nameAt_19 hS.T_tableName (by omega) (by decide) ?_
    refine g_top (nmT L i) ((hB.nm (by omega) h2).1) ?_
    exact g_iret 20 dMod_nameAt_20 rfl ⟨rfl, rfl⟩

set_option maxRecDepth 100000 in
set_option maxHeartbeats 4000000 in
theorem ct_rvl {X : mX} {l : Launch} {M : mM} {t : Nat} {L : List (Int32 × Int32)} {mx : Int32} (hS : Shp M) (ht : t < 4) (hB : TbR M t L mx) {i : Nat} (h1 : 1 ≤ i) (h2 : i ≤ 6 + L.length) : Ct X l uMod_valueAt (rk 0 0) [.ref 169, .int (nI t), .int (nI i)] M (fun r M' => r = some (.int (vlT L i)) ∧ M' = M) := by
  refine Ct.of (by decide) (Nat.le_of_ble_eq_true rfl) ?_
  show G X l uMod_valueAt (rk 0 0) 0 0 M 0 [some (.ref 169), some (.int (nI t)), some (.int (nI i))] [] _
  have hn5 := hB.2.1
  refine g_iload_n 0 dMod_valueAt_0 rfl ?_
  refine g_bipush 1 (nI 6) dMod_valueAt_1 rfl ?_
  refine g_icmp_leN 3 21 dMod_valueAt_3 rfl (by omega) (by omega) (fun h3 => ?_) (fun h3 => ?_)
  · refine g_iload_n 21 dMod_valueAt_21 rfl ?_
    refine g_iconst 22 (nI 2) dMod_valueAt_22 rfl ?_
    refine g_icmp_neN 23 30 dMod_valueAt_23 rfl (by omega) (by omega) (fun h23 => ?_) (fun h23 => ?_)
    · refine g_iload_n 30 dMod_valueAt_30 rfl ?_
      refine g_iconst 31 (nI 4) dMod_valueAt_31 rfl ?_
      refine g_icmp_neN 32 40 dMod_valueAt_32 rfl (by omega) (by omega) (fun h32 => ?_) (fun h32 => ?_)
      · refine g_iload_n 40 dMod_valueAt_40 rfl ?_
        refine g_iconst 41 (nI 5) dMod_valueAt_41 rfl ?_
        refine g_icmp_neN 42 50 dMod_valueAt_42 rfl (by omega) (by omega) (fun h42 => ?_) (fun h42 => ?_)
        · refine g_iconst 50 0 dMod_valueAt_50 rfl ?_
          exact g_iret 51 dMod_valueAt_51 rfl ⟨by congr 2; unfold vlT; rw [if_pos h3]; have := (fix6 i h1 h3).2; simp_all, rfl⟩
        · refine g_bipush 45 40 dMod_valueAt_45 rfl ?_
          refine g_goto 47 51 dMod_valueAt_47 rfl ?_
          exact g_iret 51 dMod_valueAt_51 rfl ⟨by congr 2; unfold vlT; rw [if_pos h3]; have := (fix6 i h1 h3).2; simp_all, rfl⟩
      · refine g_bipush 35 20 dMod_valueAt_35 rfl ?_
        refine g_goto 37 51 dMod_valueAt_37 rfl ?_
        exact g_iret 51 dMod_valueAt_51 rfl ⟨by congr 2; unfold vlT; rw [if_pos h3]; have := (fix6 i h1 h3).2; simp_all, rfl⟩
    · refine g_iconst 26 1 dMod_valueAt_26 rfl ?_
      refine g_goto 27 51 dMod_valueAt_27 rfl ?_
      exact g_iret 51 dMod_valueAt_51 rfl ⟨by congr 2; unfold vlT; rw [if_pos h3]; have := (fix6 i h1 h3).2; simp_all, rfl⟩
  · refine g_aload_n 6 dMod_valueAt_6 rfl ?_
    refine g_getr 7 10 47 dMod_valueAt_7 fs_Mod_150 rfl hS.mod hS.R_tableValue ?_
    refine g_bipush 10 (nI 6) dMod_valueAt_10 rfl ?_
    refine g_iload_n 12 dMod_valueAt_12 rfl ?_
    refine g_imulN 13 dMod_valueAt_13 ?_
    refine g_iload_n 14 dMod_valueAt_14 rfl ?_
    refine g_iaddN 15 dMod_valueAt_15 ?_
    refine g_bipush 16 (nI 7) dMod_valueAt_16 rfl ?_
    refine g_isubN 18 dMod_valueAt_18 (by omega) ?_
    refine g_ialdN 19 dMod_valueAt_19 hS.T_tableValue (by omega) (by decide) ?_
    refine g_top (vlT L i) ((hB.nm (by omega) h2).2) ?_
    exact g_iret 20 dMod_valueAt_20 rfl ⟨rfl, rfl⟩

set_option maxRecDepth 100000 in
set_option maxHeartbeats 4000000 in
theorem g_rln {X : mX} {l : Launch} {M : mM} {t : Nat} {L : List (Int32 × Int32)} {mx a b : Int32} {Q : Option Value → mM → Prop} (hS : Shp M) (ht : t < 4) (hB : TbR M t L mx) : ∀ (n i : Nat), 1 ≤ i → i + n = 7 + L.length → Q (some (.int (nI (lnT L a n i)))) M → G X l uMod_indexOf (rk 1 22) 0 0 M 3 [some (.ref 169), some (.int (nI t)), some (.int a), some (.int b), some (.int 0), some (.int (nI i))] [] Q
  | 0, i, h1, hn, hq => by
    have hn5 := hB.2.1
    refine g_iload 3 dMod_indexOf_3 rfl ?_
    refine g_bipush 5 (nI 6) dMod_indexOf_5 rfl ?_
    refine g_aload_n 7 dMod_indexOf_7 rfl ?_
    refine g_getr 8 10 45 dMod_indexOf_8 fs_Mod_144 rfl hS.mod hS.R_size ?_
    refine g_iload_n 11 dMod_indexOf_11 rfl ?_
    refine g_ialdN 12 dMod_indexOf_12 hS.T_size (by omega) (by decide) ?_
    refine g_top (nI (L.length)) (hB.1) ?_
    refine g_iaddN 13 dMod_indexOf_13 ?_
    refine g_icmp_gtN 14 53 dMod_indexOf_14 rfl (by omega) (by omega) (fun h14 => ?_) (fun h14 => ?_)
    · refine g_iconst 53 0 dMod_indexOf_53 rfl ?_
      exact g_iret 54 dMod_indexOf_54 rfl hq
    · exact absurd h14 (by omega)
  | n + 1, i, h1, hn, hq => by
    have hn5 := hB.2.1
    refine g_iload 3 dMod_indexOf_3 rfl ?_
    refine g_bipush 5 (nI 6) dMod_indexOf_5 rfl ?_
    refine g_aload_n 7 dMod_indexOf_7 rfl ?_
    refine g_getr 8 10 45 dMod_indexOf_8 fs_Mod_144 rfl hS.mod hS.R_size ?_
    refine g_iload_n 11 dMod_indexOf_11 rfl ?_
    refine g_ialdN 12 dMod_indexOf_12 hS.T_size (by omega) (by decide) ?_
    refine g_top (nI (L.length)) (hB.1) ?_
    refine g_iaddN 13 dMod_indexOf_13 ?_
    refine g_icmp_gtN 14 53 dMod_indexOf_14 rfl (by omega) (by omega) (fun h14 => ?_) (fun h14 => ?_)
    · exact absurd h14 (by omega)
    · refine g_aload_n 17 dMod_indexOf_17 rfl ?_
      refine g_iload_n 18 dMod_indexOf_18 rfl ?_
      refine g_iload 19 dMod_indexOf_19 rfl ?_
      refine g_callV 21 [_, _] dMod_indexOf_21 cs_Mod_213 rfl (ci := 10) rfl (by decide) hS.mod rfl ⟨(Nat.le_of_ble_eq_true rfl), (Nat.le_of_ble_eq_true rfl)⟩ (Nat.le_of_ble_eq_true rfl) (ct_rnm hS ht hB (by omega) (by omega)) (Nat.le_of_ble_eq_true rfl) (Nat.le_of_ble_eq_true rfl) ?_
      rintro _ M2 ⟨rfl, hM2⟩
      rw [hM2]
      clear hM2 M2
      refine g_iload_n 24 dMod_indexOf_24 rfl ?_
      refine g_icmp_ne 25 47 dMod_indexOf_25 rfl (fun h25 => ?_) (fun h25 => ?_)
      · unfold lnT at hq
        rw [if_neg h25] at hq
        refine g_iincN 47 dMod_indexOf_47 rfl (by decide) rfl ?_
        refine g_goto 50 3 dMod_indexOf_50 rfl ?_
        exact g_rln hS ht hB n (i + 1) (by omega) (by omega) hq
      · unfold lnT at hq
        rw [if_pos h25] at hq
        refine g_iload 28 dMod_indexOf_28 rfl ?_
        refine g_if_eq 30 44 dMod_indexOf_30 rfl (fun h30 => ?_) (fun h30 => ?_)
        · refine g_iload 44 dMod_indexOf_44 rfl ?_
          exact g_iret 46 dMod_indexOf_46 rfl hq
        · exact absurd rfl h30
set_option maxRecDepth 100000 in
set_option maxHeartbeats 4000000 in
theorem ct_rln {X : mX} {l : Launch} {M : mM} {t : Nat} {L : List (Int32 × Int32)} {mx : Int32} (hS : Shp M) (ht : t < 4) (hB : TbR M t L mx) {a b : Int32} : Ct X l uMod_indexOf (rk 1 22) [.ref 169, .int (nI t), .int a, .int b, .int 0] M (fun r M' => r = some (.int (nI (lnT L a (6 + L.length) 1))) ∧ M' = M) := by
  refine Ct.of (by decide) (Nat.le_of_ble_eq_true rfl) ?_
  show G X l uMod_indexOf (rk 1 22) 0 0 M 0 [some (.ref 169), some (.int (nI t)), some (.int a), some (.int b), some (.int 0), none] [] _
  refine g_iconst 0 (nI 1) dMod_indexOf_0 rfl ?_
  refine g_istore 1 dMod_indexOf_1 (by decide) rfl ?_
  exact g_rln hS ht hB _ 1 (Nat.le_refl _) (by omega) ⟨rfl, rfl⟩

set_option maxRecDepth 100000 in
set_option maxHeartbeats 4000000 in
theorem g_rle {X : mX} {l : Launch} {M : mM} {t : Nat} {L : List (Int32 × Int32)} {mx a b : Int32} {Q : Option Value → mM → Prop} (hS : Shp M) (ht : t < 4) (hB : TbR M t L mx) : ∀ (n i : Nat), 1 ≤ i → i + n = 7 + L.length → Q (some (.int (nI (leT L a b n i)))) M → G X l uMod_indexOf (rk 1 22) 0 0 M 3 [some (.ref 169), some (.int (nI t)), some (.int a), some (.int b), some (.int 1), some (.int (nI i))] [] Q
  | 0, i, h1, hn, hq => by
    have hn5 := hB.2.1
    refine g_iload 3 dMod_indexOf_3 rfl ?_
    refine g_bipush 5 (nI 6) dMod_indexOf_5 rfl ?_
    refine g_aload_n 7 dMod_indexOf_7 rfl ?_
    refine g_getr 8 10 45 dMod_indexOf_8 fs_Mod_144 rfl hS.mod hS.R_size ?_
    refine g_iload_n 11 dMod_indexOf_11 rfl ?_
    refine g_ialdN 12 dMod_indexOf_12 hS.T_size (by omega) (by decide) ?_
    refine g_top (nI (L.length)) (hB.1) ?_
    refine g_iaddN 13 dMod_indexOf_13 ?_
    refine g_icmp_gtN 14 53 dMod_indexOf_14 rfl (by omega) (by omega) (fun h14 => ?_) (fun h14 => ?_)
    · refine g_iconst 53 0 dMod_indexOf_53 rfl ?_
      exact g_iret 54 dMod_indexOf_54 rfl hq
    · exact absurd h14 (by omega)
  | n + 1, i, h1, hn, hq => by
    have hn5 := hB.2.1
    refine g_iload 3 dMod_indexOf_3 rfl ?_
    refine g_bipush 5 (nI 6) dMod_indexOf_5 rfl ?_
    refine g_aload_n 7 dMod_indexOf_7 rfl ?_
    refine g_getr 8 10 45 dMod_indexOf_8 fs_Mod_144 rfl hS.mod hS.R_size ?_
    refine g_iload_n 11 dMod_indexOf_11 rfl ?_
    refine g_ialdN 12 dMod_indexOf_12 hS.T_size (by omega) (by decide) ?_
    refine g_top (nI (L.length)) (hB.1) ?_
    refine g_iaddN 13 dMod_indexOf_13 ?_
    refine g_icmp_gtN 14 53 dMod_indexOf_14 rfl (by omega) (by omega) (fun h14 => ?_) (fun h14 => ?_)
    · exact absurd h14 (by omega)
    · refine g_aload_n 17 dMod_indexOf_17 rfl ?_
      refine g_iload_n 18 dMod_indexOf_18 rfl ?_
      refine g_iload 19 dMod_indexOf_19 rfl ?_
      refine g_callV 21 [_, _] dMod_indexOf_21 cs_Mod_213 rfl (ci := 10) rfl (by decide) hS.mod rfl ⟨(Nat.le_of_ble_eq_true rfl), (Nat.le_of_ble_eq_true rfl)⟩ (Nat.le_of_ble_eq_true rfl) (ct_rnm hS ht hB (by omega) (by omega)) (Nat.le_of_ble_eq_true rfl) (Nat.le_of_ble_eq_true rfl) ?_
      rintro _ M2 ⟨rfl, hM2⟩
      rw [hM2]
      clear hM2 M2
      refine g_iload_n 24 dMod_indexOf_24 rfl ?_
      refine g_icmp_ne 25 47 dMod_indexOf_25 rfl (fun h25 => ?_) (fun h25 => ?_)
      · unfold leT at hq
        rw [if_neg h25] at hq
        refine g_iincN 47 dMod_indexOf_47 rfl (by decide) rfl ?_
        refine g_goto 50 3 dMod_indexOf_50 rfl ?_
        exact g_rle hS ht hB n (i + 1) (by omega) (by omega) hq
      · unfold leT at hq
        rw [if_pos h25] at hq
        refine g_iload 28 dMod_indexOf_28 rfl ?_
        refine g_if_eq 30 44 dMod_indexOf_30 rfl (fun h30 => ?_) (fun h30 => ?_)
        · exact absurd h30 (by decide)
        · refine g_aload_n 33 dMod_indexOf_33 rfl ?_
          refine g_iload_n 34 dMod_indexOf_34 rfl ?_
          refine g_iload 35 dMod_indexOf_35 rfl ?_
          refine g_callV 37 [_, _] dMod_indexOf_37 cs_Mod_216 rfl (ci := 10) rfl (by decide) hS.mod rfl ⟨(Nat.le_of_ble_eq_true rfl), (Nat.le_of_ble_eq_true rfl)⟩ (Nat.le_of_ble_eq_true rfl) (ct_rvl hS ht hB (by omega) (by omega)) (Nat.le_of_ble_eq_true rfl) (Nat.le_of_ble_eq_true rfl) ?_
          rintro _ M2 ⟨rfl, hM2⟩
          rw [hM2]
          clear hM2 M2
          refine g_iload_n 40 dMod_indexOf_40 rfl ?_
          refine g_icmp_ne 41 47 dMod_indexOf_41 rfl (fun h41 => ?_) (fun h41 => ?_)
          · rw [if_neg h41] at hq
            refine g_iincN 47 dMod_indexOf_47 rfl (by decide) rfl ?_
            refine g_goto 50 3 dMod_indexOf_50 rfl ?_
            exact g_rle hS ht hB n (i + 1) (by omega) (by omega) hq
          · rw [if_pos h41] at hq
            refine g_iload 44 dMod_indexOf_44 rfl ?_
            exact g_iret 46 dMod_indexOf_46 rfl hq
set_option maxRecDepth 100000 in
set_option maxHeartbeats 4000000 in
theorem ct_rle {X : mX} {l : Launch} {M : mM} {t : Nat} {L : List (Int32 × Int32)} {mx : Int32} (hS : Shp M) (ht : t < 4) (hB : TbR M t L mx) {a b : Int32} : Ct X l uMod_indexOf (rk 1 22) [.ref 169, .int (nI t), .int a, .int b, .int 1] M (fun r M' => r = some (.int (nI (leT L a b (6 + L.length) 1))) ∧ M' = M) := by
  refine Ct.of (by decide) (Nat.le_of_ble_eq_true rfl) ?_
  show G X l uMod_indexOf (rk 1 22) 0 0 M 0 [some (.ref 169), some (.int (nI t)), some (.int a), some (.int b), some (.int 1), none] [] _
  refine g_iconst 0 (nI 1) dMod_indexOf_0 rfl ?_
  refine g_istore 1 dMod_indexOf_1 (by decide) rfl ?_
  exact g_rle hS ht hB _ 1 (Nat.le_refl _) (by omega) ⟨rfl, rfl⟩
