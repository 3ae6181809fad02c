theorem dMod_getHeaders_0 : decode uMod_getHeaders.2.1 0 = .ok (.aload_n 0, 1) := by decide +kernel
theorem dMod_getHeaders_1 : decode uMod_getHeaders.2.1 1 = .ok (.getfield 22, 3) := by decide +kernel
theorem dMod_getHeaders_4 : decode uMod_getHeaders.2.1 4 = .ok (.iload_n 2, 1) := by decide +kernel
theorem dMod_getHeaders_5 : decode uMod_getHeaders.2.1 5 = .ok (.iaload, 1) := by decide +kernel
theorem dMod_getHeaders_6 : decode uMod_getHeaders.2.1 6 = .ok (.istore_n 3, 1) := by decide +kernel
theorem dMod_getHeaders_7 : decode uMod_getHeaders.2.1 7 = .ok (.iload_n 3, 1) := by decide +kernel
theorem dMod_getHeaders_8 : decode uMod_getHeaders.2.1 8 = .ok (.invokestatic 246, 3) := by decide +kernel
theorem dMod_getHeaders_11 : decode uMod_getHeaders.2.1 11 = .ok (.ifCond .eq 20, 3) := by decide +kernel
theorem dMod_getHeaders_14 : decode uMod_getHeaders.2.1 14 = .ok (.iload_n 1, 1) := by decide +kernel
theorem dMod_getHeaders_15 : decode uMod_getHeaders.2.1 15 = .ok (.ifCond .ne 23, 3) := by decide +kernel
theorem dMod_getHeaders_18 : decode uMod_getHeaders.2.1 18 = .ok (.aload_n 0, 1) := by decide +kernel
theorem dMod_getHeaders_19 : decode uMod_getHeaders.2.1 19 = .ok (.getfield 51, 3) := by decide +kernel
theorem dMod_getHeaders_22 : decode uMod_getHeaders.2.1 22 = .ok (.iload_n 1, 1) := by decide +kernel
theorem dMod_getHeaders_23 : decode uMod_getHeaders.2.1 23 = .ok (.iload_n 3, 1) := by decide +kernel
theorem dMod_getHeaders_24 : decode uMod_getHeaders.2.1 24 = .ok (.invokestatic 190, 3) := by decide +kernel
theorem dMod_getHeaders_27 : decode uMod_getHeaders.2.1 27 = .ok (.baload, 1) := by decide +kernel
theorem dMod_getHeaders_28 : decode uMod_getHeaders.2.1 28 = .ok (.ifCond .ne 10, 3) := by decide +kernel
theorem dMod_getHeaders_31 : decode uMod_getHeaders.2.1 31 = .ok (.aload_n 0, 1) := by decide +kernel
theorem dMod_getHeaders_32 : decode uMod_getHeaders.2.1 32 = .ok (.iload_n 1, 1) := by decide +kernel
theorem dMod_getHeaders_33 : decode uMod_getHeaders.2.1 33 = .ok (.iconst 1, 1) := by decide +kernel
theorem dMod_getHeaders_34 : decode uMod_getHeaders.2.1 34 = .ok (.invokevirtual 249, 3) := by decide +kernel
theorem dMod_getHeaders_37 : decode uMod_getHeaders.2.1 37 = .ok (.ireturn, 1) := by decide +kernel
theorem dMod_getHeaders_38 : decode uMod_getHeaders.2.1 38 = .ok (.aload_n 0, 1) := by decide +kernel
theorem dMod_getHeaders_39 : decode uMod_getHeaders.2.1 39 = .ok (.iload_n 1, 1) := by decide +kernel
theorem dMod_getHeaders_40 : decode uMod_getHeaders.2.1 40 = .ok (.iload_n 2, 1) := by decide +kernel
theorem dMod_getHeaders_41 : decode uMod_getHeaders.2.1 41 = .ok (.invokevirtual 262, 3) := by decide +kernel
theorem dMod_getHeaders_44 : decode uMod_getHeaders.2.1 44 = .ok (.ifCond .ne 11, 3) := by decide +kernel
theorem dMod_getHeaders_47 : decode uMod_getHeaders.2.1 47 = .ok (.aload_n 0, 1) := by decide +kernel
theorem dMod_getHeaders_48 : decode uMod_getHeaders.2.1 48 = .ok (.iload_n 1, 1) := by decide +kernel
theorem dMod_getHeaders_49 : decode uMod_getHeaders.2.1 49 = .ok (.bipush 9, 2) := by decide +kernel
theorem dMod_getHeaders_51 : decode uMod_getHeaders.2.1 51 = .ok (.invokevirtual 249, 3) := by decide +kernel
theorem dMod_getHeaders_54 : decode uMod_getHeaders.2.1 54 = .ok (.ireturn, 1) := by decide +kernel
theorem dMod_getHeaders_55 : decode uMod_getHeaders.2.1 55 = .ok (.iload_n 1, 1) := by decide +kernel
theorem dMod_getHeaders_56 : decode uMod_getHeaders.2.1 56 = .ok (.iload_n 3, 1) := by decide +kernel
theorem dMod_getHeaders_57 : decode uMod_getHeaders.2.1 57 = .ok (.invokestatic 190, 3) := by decide +kernel
theorem dMod_getHeaders_60 : decode uMod_getHeaders.2.1 60 = .ok (.istore 4, 2) := by decide +kernel
theorem dMod_getHeaders_62 : decode uMod_getHeaders.2.1 62 = .ok (.aload_n 0, 1) := by decide +kernel
theorem dMod_getHeaders_63 : decode uMod_getHeaders.2.1 63 = .ok (.getfield 51, 3) := by decide +kernel
theorem dMod_getHeaders_66 : decode uMod_getHeaders.2.1 66 = .ok (.iload 4, 2) := by decide +kernel
theorem dMod_getHeaders_68 : decode uMod_getHeaders.2.1 68 = .ok (.baload, 1) := by decide +kernel
theorem dMod_getHeaders_69 : decode uMod_getHeaders.2.1 69 = .ok (.ifCond .ne 16, 3) := by decide +kernel
theorem dMod_getHeaders_72 : decode uMod_getHeaders.2.1 72 = .ok (.aload_n 0, 1) := by decide +kernel
theorem dMod_getHeaders_73 : decode uMod_getHeaders.2.1 73 = .ok (.iload_n 1, 1) := by decide +kernel
theorem dMod_getHeaders_74 : decode uMod_getHeaders.2.1 74 = .ok (.iload_n 3, 1) := by decide +kernel
theorem dMod_getHeaders_75 : decode uMod_getHeaders.2.1 75 = .ok (.aload_n 0, 1) := by decide +kernel
theorem dMod_getHeaders_76 : decode uMod_getHeaders.2.1 76 = .ok (.getfield 28, 3) := by decide +kernel
theorem dMod_getHeaders_79 : decode uMod_getHeaders.2.1 79 = .ok (.iload_n 2, 1) := by decide +kernel
theorem dMod_getHeaders_80 : decode uMod_getHeaders.2.1 80 = .ok (.baload, 1) := by decide +kernel
theorem dMod_getHeaders_81 : decode uMod_getHeaders.2.1 81 = .ok (.invokevirtual 265, 3) := by decide +kernel
theorem dMod_getHeaders_84 : decode uMod_getHeaders.2.1 84 = .ok (.ireturn, 1) := by decide +kernel
theorem dMod_getHeaders_85 : decode uMod_getHeaders.2.1 85 = .ok (.aload_n 0, 1) := by decide +kernel
theorem dMod_getHeaders_86 : decode uMod_getHeaders.2.1 86 = .ok (.getfield 54, 3) := by decide +kernel
theorem dMod_getHeaders_89 : decode uMod_getHeaders.2.1 89 = .ok (.iload 4, 2) := by decide +kernel
theorem dMod_getHeaders_91 : decode uMod_getHeaders.2.1 91 = .ok (.baload, 1) := by decide +kernel
theorem dMod_getHeaders_92 : decode uMod_getHeaders.2.1 92 = .ok (.ifCond .eq 5, 3) := by decide +kernel
theorem dMod_getHeaders_95 : decode uMod_getHeaders.2.1 95 = .ok (.iconst 0, 1) := by decide +kernel
theorem dMod_getHeaders_96 : decode uMod_getHeaders.2.1 96 = .ok (.ireturn, 1) := by decide +kernel
theorem dMod_getHeaders_97 : decode uMod_getHeaders.2.1 97 = .ok (.aload_n 0, 1) := by decide +kernel
theorem dMod_getHeaders_98 : decode uMod_getHeaders.2.1 98 = .ok (.getfield 60, 3) := by decide +kernel
theorem dMod_getHeaders_101 : decode uMod_getHeaders.2.1 101 = .ok (.iload 4, 2) := by decide +kernel
theorem dMod_getHeaders_103 : decode uMod_getHeaders.2.1 103 = .ok (.baload, 1) := by decide +kernel
theorem dMod_getHeaders_104 : decode uMod_getHeaders.2.1 104 = .ok (.ifCond .eq 31, 3) := by decide +kernel
theorem dMod_getHeaders_107 : decode uMod_getHeaders.2.1 107 = .ok (.aload_n 0, 1) := by decide +kernel
theorem dMod_getHeaders_108 : decode uMod_getHeaders.2.1 108 = .ok (.getfield 57, 3) := by decide +kernel
theorem dMod_getHeaders_111 : decode uMod_getHeaders.2.1 111 = .ok (.iload 4, 2) := by decide +kernel
theorem dMod_getHeaders_113 : decode uMod_getHeaders.2.1 113 = .ok (.baload, 1) := by decide +kernel
theorem dMod_getHeaders_114 : decode uMod_getHeaders.2.1 114 = .ok (.ifCond .eq 12, 3) := by decide +kernel
theorem dMod_getHeaders_117 : decode uMod_getHeaders.2.1 117 = .ok (.aload_n 0, 1) := by decide +kernel
theorem dMod_getHeaders_118 : decode uMod_getHeaders.2.1 118 = .ok (.iload_n 1, 1) := by decide +kernel
theorem dMod_getHeaders_119 : decode uMod_getHeaders.2.1 119 = .ok (.iconst 5, 1) := by decide +kernel
theorem dMod_getHeaders_120 : decode uMod_getHeaders.2.1 120 = .ok (.invokevirtual 249, 3) := by decide +kernel
theorem dMod_getHeaders_123 : decode uMod_getHeaders.2.1 123 = .ok (.goto 11, 3) := by decide +kernel
theorem dMod_getHeaders_126 : decode uMod_getHeaders.2.1 126 = .ok (.aload_n 0, 1) := by decide +kernel
theorem dMod_getHeaders_127 : decode uMod_getHeaders.2.1 127 = .ok (.iload_n 1, 1) := by decide +kernel
theorem dMod_getHeaders_128 : decode uMod_getHeaders.2.1 128 = .ok (.iload_n 3, 1) := by decide +kernel
theorem dMod_getHeaders_129 : decode uMod_getHeaders.2.1 129 = .ok (.iconst 5, 1) := by decide +kernel
theorem dMod_getHeaders_130 : decode uMod_getHeaders.2.1 130 = .ok (.iconst 0, 1) := by decide +kernel
theorem dMod_getHeaders_131 : decode uMod_getHeaders.2.1 131 = .ok (.invokevirtual 255, 3) := by decide +kernel
theorem dMod_getHeaders_134 : decode uMod_getHeaders.2.1 134 = .ok (.ireturn, 1) := by decide +kernel
theorem dMod_getHeaders_135 : decode uMod_getHeaders.2.1 135 = .ok (.aload_n 0, 1) := by decide +kernel
theorem dMod_getHeaders_136 : decode uMod_getHeaders.2.1 136 = .ok (.getfield 63, 3) := by decide +kernel
theorem dMod_getHeaders_139 : decode uMod_getHeaders.2.1 139 = .ok (.iload 4, 2) := by decide +kernel
theorem dMod_getHeaders_141 : decode uMod_getHeaders.2.1 141 = .ok (.baload, 1) := by decide +kernel
theorem dMod_getHeaders_142 : decode uMod_getHeaders.2.1 142 = .ok (.ifCond .eq 12, 3) := by decide +kernel
theorem dMod_getHeaders_145 : decode uMod_getHeaders.2.1 145 = .ok (.aload_n 0, 1) := by decide +kernel
theorem dMod_getHeaders_146 : decode uMod_getHeaders.2.1 146 = .ok (.iload_n 1, 1) := by decide +kernel
theorem dMod_getHeaders_147 : decode uMod_getHeaders.2.1 147 = .ok (.iload_n 3, 1) := by decide +kernel
theorem dMod_getHeaders_148 : decode uMod_getHeaders.2.1 148 = .ok (.iconst 1, 1) := by decide +kernel
theorem dMod_getHeaders_149 : decode uMod_getHeaders.2.1 149 = .ok (.iconst 0, 1) := by decide +kernel
theorem dMod_getHeaders_150 : decode uMod_getHeaders.2.1 150 = .ok (.invokevirtual 255, 3) := by decide +kernel
theorem dMod_getHeaders_153 : decode uMod_getHeaders.2.1 153 = .ok (.ireturn, 1) := by decide +kernel
theorem dMod_getHeaders_154 : decode uMod_getHeaders.2.1 154 = .ok (.aload_n 0, 1) := by decide +kernel
theorem dMod_getHeaders_155 : decode uMod_getHeaders.2.1 155 = .ok (.iload 4, 2) := by decide +kernel
theorem dMod_getHeaders_157 : decode uMod_getHeaders.2.1 157 = .ok (.invokevirtual 269, 3) := by decide +kernel
theorem dMod_getHeaders_160 : decode uMod_getHeaders.2.1 160 = .ok (.aload_n 0, 1) := by decide +kernel
theorem dMod_getHeaders_161 : decode uMod_getHeaders.2.1 161 = .ok (.getfield 60, 3) := by decide +kernel
theorem dMod_getHeaders_164 : decode uMod_getHeaders.2.1 164 = .ok (.iload 4, 2) := by decide +kernel
theorem dMod_getHeaders_166 : decode uMod_getHeaders.2.1 166 = .ok (.aload_n 0, 1) := by decide +kernel
theorem dMod_getHeaders_167 : decode uMod_getHeaders.2.1 167 = .ok (.getfield 28, 3) := by decide +kernel
theorem dMod_getHeaders_170 : decode uMod_getHeaders.2.1 170 = .ok (.iload_n 2, 1) := by decide +kernel
theorem dMod_getHeaders_171 : decode uMod_getHeaders.2.1 171 = .ok (.baload, 1) := by decide +kernel
theorem dMod_getHeaders_172 : decode uMod_getHeaders.2.1 172 = .ok (.bastore, 1) := by decide +kernel
theorem dMod_getHeaders_173 : decode uMod_getHeaders.2.1 173 = .ok (.iconst 0, 1) := by decide +kernel
theorem dMod_getHeaders_174 : decode uMod_getHeaders.2.1 174 = .ok (.ireturn, 1) := by decide +kernel
theorem dMod_getData_0 : decode uMod_getData.2.1 0 = .ok (.aload_n 0, 1) := by decide +kernel
theorem dMod_getData_1 : decode uMod_getData.2.1 1 = .ok (.getfield 22, 3) := by decide +kernel
theorem dMod_getData_4 : decode uMod_getData.2.1 4 = .ok (.iload_n 2, 1) := by decide +kernel
theorem dMod_getData_5 : decode uMod_getData.2.1 5 = .ok (.iaload, 1) := by decide +kernel
theorem dMod_getData_6 : decode uMod_getData.2.1 6 = .ok (.istore_n 3, 1) := by decide +kernel
theorem dMod_getData_7 : decode uMod_getData.2.1 7 = .ok (.aload_n 0, 1) := by decide +kernel
theorem dMod_getData_8 : decode uMod_getData.2.1 8 = .ok (.getfield 25, 3) := by decide +kernel
theorem dMod_getData_11 : decode uMod_getData.2.1 11 = .ok (.iload_n 2, 1) := by decide +kernel
theorem dMod_getData_12 : decode uMod_getData.2.1 12 = .ok (.iaload, 1) := by decide +kernel
theorem dMod_getData_13 : decode uMod_getData.2.1 13 = .ok (.istore 4, 2) := by decide +kernel
theorem dMod_getData_15 : decode uMod_getData.2.1 15 = .ok (.iload_n 3, 1) := by decide +kernel
theorem dMod_getData_16 : decode uMod_getData.2.1 16 = .ok (.invokestatic 246, 3) := by decide +kernel
theorem dMod_getData_19 : decode uMod_getData.2.1 19 = .ok (.ifCond .eq 16, 3) := by decide +kernel
theorem dMod_getData_22 : decode uMod_getData.2.1 22 = .ok (.aload_n 0, 1) := by decide +kernel
theorem dMod_getData_23 : decode uMod_getData.2.1 23 = .ok (.getfield 51, 3) := by decide +kernel
theorem dMod_getData_26 : decode uMod_getData.2.1 26 = .ok (.iload_n 1, 1) := by decide +kernel
theorem dMod_getData_27 : decode uMod_getData.2.1 27 = .ok (.iload_n 3, 1) := by decide +kernel
theorem dMod_getData_28 : decode uMod_getData.2.1 28 = .ok (.invokestatic 190, 3) := by decide +kernel
theorem dMod_getData_31 : decode uMod_getData.2.1 31 = .ok (.baload, 1) := by decide +kernel
theorem dMod_getData_32 : decode uMod_getData.2.1 32 = .ok (.ifCond .ne 10, 3) := by decide +kernel
theorem dMod_getData_35 : decode uMod_getData.2.1 35 = .ok (.aload_n 0, 1) := by decide +kernel
theorem dMod_getData_36 : decode uMod_getData.2.1 36 = .ok (.iload_n 1, 1) := by decide +kernel
theorem dMod_getData_37 : decode uMod_getData.2.1 37 = .ok (.iconst 1, 1) := by decide +kernel
theorem dMod_getData_38 : decode uMod_getData.2.1 38 = .ok (.invokevirtual 249, 3) := by decide +kernel
theorem dMod_getData_41 : decode uMod_getData.2.1 41 = .ok (.ireturn, 1) := by decide +kernel
theorem dMod_getData_42 : decode uMod_getData.2.1 42 = .ok (.iload 4, 2) := by decide +kernel
theorem dMod_getData_44 : decode uMod_getData.2.1 44 = .ok (.aload_n 0, 1) := by decide +kernel
theorem dMod_getData_45 : decode uMod_getData.2.1 45 = .ok (.iload_n 1, 1) := by decide +kernel
theorem dMod_getData_46 : decode uMod_getData.2.1 46 = .ok (.invokevirtual 252, 3) := by decide +kernel
theorem dMod_getData_49 : decode uMod_getData.2.1 49 = .ok (.if_icmp .le 10, 3) := by decide +kernel
theorem dMod_getData_52 : decode uMod_getData.2.1 52 = .ok (.aload_n 0, 1) := by decide +kernel
theorem dMod_getData_53 : decode uMod_getData.2.1 53 = .ok (.iload_n 1, 1) := by decide +kernel
theorem dMod_getData_54 : decode uMod_getData.2.1 54 = .ok (.iconst 3, 1) := by decide +kernel
theorem dMod_getData_55 : decode uMod_getData.2.1 55 = .ok (.invokevirtual 249, 3) := by decide +kernel
theorem dMod_getData_58 : decode uMod_getData.2.1 58 = .ok (.ireturn, 1) := by decide +kernel
theorem dMod_getData_59 : decode uMod_getData.2.1 59 = .ok (.iload_n 1, 1) := by decide +kernel
theorem dMod_getData_60 : decode uMod_getData.2.1 60 = .ok (.iload_n 3, 1) := by decide +kernel
theorem dMod_getData_61 : decode uMod_getData.2.1 61 = .ok (.invokestatic 190, 3) := by decide +kernel
theorem dMod_getData_64 : decode uMod_getData.2.1 64 = .ok (.istore 5, 2) := by decide +kernel
theorem dMod_getData_66 : decode uMod_getData.2.1 66 = .ok (.aload_n 0, 1) := by decide +kernel
theorem dMod_getData_67 : decode uMod_getData.2.1 67 = .ok (.getfield 54, 3) := by decide +kernel
theorem dMod_getData_70 : decode uMod_getData.2.1 70 = .ok (.iload 5, 2) := by decide +kernel
theorem dMod_getData_72 : decode uMod_getData.2.1 72 = .ok (.baload, 1) := by decide +kernel
theorem dMod_getData_73 : decode uMod_getData.2.1 73 = .ok (.ifCond .eq 12, 3) := by decide +kernel
theorem dMod_getData_76 : decode uMod_getData.2.1 76 = .ok (.aload_n 0, 1) := by decide +kernel
theorem dMod_getData_77 : decode uMod_getData.2.1 77 = .ok (.iload_n 1, 1) := by decide +kernel
theorem dMod_getData_78 : decode uMod_getData.2.1 78 = .ok (.iload 4, 2) := by decide +kernel
theorem dMod_getData_80 : decode uMod_getData.2.1 80 = .ok (.invokevirtual 201, 3) := by decide +kernel
theorem dMod_getData_83 : decode uMod_getData.2.1 83 = .ok (.iconst 0, 1) := by decide +kernel
theorem dMod_getData_84 : decode uMod_getData.2.1 84 = .ok (.ireturn, 1) := by decide +kernel
theorem dMod_getData_85 : decode uMod_getData.2.1 85 = .ok (.aload_n 0, 1) := by decide +kernel
theorem dMod_getData_86 : decode uMod_getData.2.1 86 = .ok (.getfield 60, 3) := by decide +kernel
theorem dMod_getData_89 : decode uMod_getData.2.1 89 = .ok (.iload 5, 2) := by decide +kernel
theorem dMod_getData_91 : decode uMod_getData.2.1 91 = .ok (.baload, 1) := by decide +kernel
theorem dMod_getData_92 : decode uMod_getData.2.1 92 = .ok (.ifCond .eq 13, 3) := by decide +kernel
theorem dMod_getData_95 : decode uMod_getData.2.1 95 = .ok (.aload_n 0, 1) := by decide +kernel
theorem dMod_getData_96 : decode uMod_getData.2.1 96 = .ok (.iload_n 1, 1) := by decide +kernel
theorem dMod_getData_97 : decode uMod_getData.2.1 97 = .ok (.iload_n 3, 1) := by decide +kernel
theorem dMod_getData_98 : decode uMod_getData.2.1 98 = .ok (.iconst 5, 1) := by decide +kernel
theorem dMod_getData_99 : decode uMod_getData.2.1 99 = .ok (.iload 4, 2) := by decide +kernel
theorem dMod_getData_101 : decode uMod_getData.2.1 101 = .ok (.invokevirtual 255, 3) := by decide +kernel
theorem dMod_getData_104 : decode uMod_getData.2.1 104 = .ok (.ireturn, 1) := by decide +kernel
theorem dMod_getData_105 : decode uMod_getData.2.1 105 = .ok (.aload_n 0, 1) := by decide +kernel
theorem dMod_getData_106 : decode uMod_getData.2.1 106 = .ok (.getfield 63, 3) := by decide +kernel
theorem dMod_getData_109 : decode uMod_getData.2.1 109 = .ok (.iload 5, 2) := by decide +kernel
theorem dMod_getData_111 : decode uMod_getData.2.1 111 = .ok (.baload, 1) := by decide +kernel
theorem dMod_getData_112 : decode uMod_getData.2.1 112 = .ok (.ifCond .ne 13, 3) := by decide +kernel
theorem dMod_getData_115 : decode uMod_getData.2.1 115 = .ok (.aload_n 0, 1) := by decide +kernel
theorem dMod_getData_116 : decode uMod_getData.2.1 116 = .ok (.iload_n 1, 1) := by decide +kernel
theorem dMod_getData_117 : decode uMod_getData.2.1 117 = .ok (.iload_n 3, 1) := by decide +kernel
theorem dMod_getData_118 : decode uMod_getData.2.1 118 = .ok (.iconst 1, 1) := by decide +kernel
theorem dMod_getData_119 : decode uMod_getData.2.1 119 = .ok (.iload 4, 2) := by decide +kernel
theorem dMod_getData_121 : decode uMod_getData.2.1 121 = .ok (.invokevirtual 255, 3) := by decide +kernel
theorem dMod_getData_124 : decode uMod_getData.2.1 124 = .ok (.ireturn, 1) := by decide +kernel
theorem dMod_getData_125 : decode uMod_getData.2.1 125 = .ok (.iload 4, 2) := by decide +kernel
theorem dMod_getData_127 : decode uMod_getData.2.1 127 = .ok (.ifCond .le 24, 3) := by decide +kernel
theorem dMod_getData_130 : decode uMod_getData.2.1 130 = .ok (.iload 4, 2) := by decide +kernel
theorem dMod_getData_132 : decode uMod_getData.2.1 132 = .ok (.aload_n 0, 1) := by decide +kernel
theorem dMod_getData_133 : decode uMod_getData.2.1 133 = .ok (.iload 5, 2) := by decide +kernel
theorem dMod_getData_135 : decode uMod_getData.2.1 135 = .ok (.invokevirtual 259, 3) := by decide +kernel
theorem dMod_getData_138 : decode uMod_getData.2.1 138 = .ok (.if_icmp .le 13, 3) := by decide +kernel
theorem dMod_getData_141 : decode uMod_getData.2.1 141 = .ok (.aload_n 0, 1) := by decide +kernel
theorem dMod_getData_142 : decode uMod_getData.2.1 142 = .ok (.iload_n 1, 1) := by decide +kernel
theorem dMod_getData_143 : decode uMod_getData.2.1 143 = .ok (.iload_n 3, 1) := by decide +kernel
theorem dMod_getData_144 : decode uMod_getData.2.1 144 = .ok (.iconst 3, 1) := by decide +kernel
theorem dMod_getData_145 : decode uMod_getData.2.1 145 = .ok (.iload 4, 2) := by decide +kernel
theorem dMod_getData_147 : decode uMod_getData.2.1 147 = .ok (.invokevirtual 255, 3) := by decide +kernel
theorem dMod_getData_150 : decode uMod_getData.2.1 150 = .ok (.ireturn, 1) := by decide +kernel
theorem dMod_getData_151 : decode uMod_getData.2.1 151 = .ok (.aload_n 0, 1) := by decide +kernel
theorem dMod_getData_152 : decode uMod_getData.2.1 152 = .ok (.getfield 78, 3) := by decide +kernel
theorem dMod_getData_155 : decode uMod_getData.2.1 155 = .ok (.iload 5, 2) := by decide +kernel
theorem dMod_getData_157 : decode uMod_getData.2.1 157 = .ok (.aload_n 0, 1) := by decide +kernel
theorem dMod_getData_158 : decode uMod_getData.2.1 158 = .ok (.getfield 78, 3) := by decide +kernel
theorem dMod_getData_161 : decode uMod_getData.2.1 161 = .ok (.iload 5, 2) := by decide +kernel
theorem dMod_getData_163 : decode uMod_getData.2.1 163 = .ok (.iaload, 1) := by decide +kernel
theorem dMod_getData_164 : decode uMod_getData.2.1 164 = .ok (.iload 4, 2) := by decide +kernel
theorem dMod_getData_166 : decode uMod_getData.2.1 166 = .ok (.iadd, 1) := by decide +kernel
theorem dMod_getData_167 : decode uMod_getData.2.1 167 = .ok (.iastore, 1) := by decide +kernel
theorem dMod_getData_168 : decode uMod_getData.2.1 168 = .ok (.iconst 0, 1) := by decide +kernel
theorem dMod_getData_169 : decode uMod_getData.2.1 169 = .ok (.istore 6, 2) := by decide +kernel
theorem dMod_getData_171 : decode uMod_getData.2.1 171 = .ok (.iload 6, 2) := by decide +kernel
theorem dMod_getData_173 : decode uMod_getData.2.1 173 = .ok (.iload 4, 2) := by decide +kernel
theorem dMod_getData_175 : decode uMod_getData.2.1 175 = .ok (.if_icmp .ge 84, 3) := by decide +kernel
theorem dMod_getData_178 : decode uMod_getData.2.1 178 = .ok (.aload_n 0, 1) := by decide +kernel
theorem dMod_getData_179 : decode uMod_getData.2.1 179 = .ok (.getfield 102, 3) := by decide +kernel
theorem dMod_getData_182 : decode uMod_getData.2.1 182 = .ok (.bipush 40, 2) := by decide +kernel
theorem dMod_getData_184 : decode uMod_getData.2.1 184 = .ok (.iload_n 1, 1) := by decide +kernel
theorem dMod_getData_185 : decode uMod_getData.2.1 185 = .ok (.imul, 1) := by decide +kernel
theorem dMod_getData_186 : decode uMod_getData.2.1 186 = .ok (.aload_n 0, 1) := by decide +kernel
theorem dMod_getData_187 : decode uMod_getData.2.1 187 = .ok (.getfield 99, 3) := by decide +kernel
theorem dMod_getData_190 : decode uMod_getData.2.1 190 = .ok (.iload_n 1, 1) := by decide +kernel
theorem dMod_getData_191 : decode uMod_getData.2.1 191 = .ok (.iaload, 1) := by decide +kernel
theorem dMod_getData_192 : decode uMod_getData.2.1 192 = .ok (.iadd, 1) := by decide +kernel
theorem dMod_getData_193 : decode uMod_getData.2.1 193 = .ok (.iload_n 3, 1) := by decide +kernel
theorem dMod_getData_194 : decode uMod_getData.2.1 194 = .ok (.iastore, 1) := by decide +kernel
theorem dMod_getData_195 : decode uMod_getData.2.1 195 = .ok (.aload_n 0, 1) := by decide +kernel
theorem dMod_getData_196 : decode uMod_getData.2.1 196 = .ok (.getfield 105, 3) := by decide +kernel
theorem dMod_getData_199 : decode uMod_getData.2.1 199 = .ok (.bipush 40, 2) := by decide +kernel
theorem dMod_getData_201 : decode uMod_getData.2.1 201 = .ok (.iload_n 1, 1) := by decide +kernel
theorem dMod_getData_202 : decode uMod_getData.2.1 202 = .ok (.imul, 1) := by decide +kernel
theorem dMod_getData_203 : decode uMod_getData.2.1 203 = .ok (.aload_n 0, 1) := by decide +kernel
theorem dMod_getData_204 : decode uMod_getData.2.1 204 = .ok (.getfield 99, 3) := by decide +kernel
theorem dMod_getData_207 : decode uMod_getData.2.1 207 = .ok (.iload_n 1, 1) := by decide +kernel
theorem dMod_getData_208 : decode uMod_getData.2.1 208 = .ok (.iaload, 1) := by decide +kernel
theorem dMod_getData_209 : decode uMod_getData.2.1 209 = .ok (.iadd, 1) := by decide +kernel
theorem dMod_getData_210 : decode uMod_getData.2.1 210 = .ok (.iload 6, 2) := by decide +kernel
theorem dMod_getData_212 : decode uMod_getData.2.1 212 = .ok (.bipush 8, 2) := by decide +kernel
theorem dMod_getData_214 : decode uMod_getData.2.1 214 = .ok (.if_icmp .ge 23, 3) := by decide +kernel
theorem dMod_getData_217 : decode uMod_getData.2.1 217 = .ok (.aload_n 0, 1) := by decide +kernel
theorem dMod_getData_218 : decode uMod_getData.2.1 218 = .ok (.getfield 35, 3) := by decide +kernel
theorem dMod_getData_221 : decode uMod_getData.2.1 221 = .ok (.iload_n 2, 1) := by decide +kernel
theorem dMod_getData_222 : decode uMod_getData.2.1 222 = .ok (.laload, 1) := by decide +kernel
theorem dMod_getData_223 : decode uMod_getData.2.1 223 = .ok (.bipush 8, 2) := by decide +kernel
theorem dMod_getData_225 : decode uMod_getData.2.1 225 = .ok (.iload 6, 2) := by decide +kernel
theorem dMod_getData_227 : decode uMod_getData.2.1 227 = .ok (.imul, 1) := by decide +kernel
theorem dMod_getData_228 : decode uMod_getData.2.1 228 = .ok (.lushr, 1) := by decide +kernel
theorem dMod_getData_229 : decode uMod_getData.2.1 229 = .ok (.l2i, 1) := by decide +kernel
theorem dMod_getData_230 : decode uMod_getData.2.1 230 = .ok (.sipush 255, 3) := by decide +kernel
theorem dMod_getData_233 : decode uMod_getData.2.1 233 = .ok (.iand, 1) := by decide +kernel
theorem dMod_getData_234 : decode uMod_getData.2.1 234 = .ok (.goto 4, 3) := by decide +kernel
theorem dMod_getData_237 : decode uMod_getData.2.1 237 = .ok (.iconst 0, 1) := by decide +kernel
theorem dMod_getData_238 : decode uMod_getData.2.1 238 = .ok (.iastore, 1) := by decide +kernel
theorem dMod_getData_239 : decode uMod_getData.2.1 239 = .ok (.aload_n 0, 1) := by decide +kernel
theorem dMod_getData_240 : decode uMod_getData.2.1 240 = .ok (.getfield 99, 3) := by decide +kernel
theorem dMod_getData_243 : decode uMod_getData.2.1 243 = .ok (.iload_n 1, 1) := by decide +kernel
theorem dMod_getData_244 : decode uMod_getData.2.1 244 = .ok (.aload_n 0, 1) := by decide +kernel
theorem dMod_getData_245 : decode uMod_getData.2.1 245 = .ok (.getfield 99, 3) := by decide +kernel
theorem dMod_getData_248 : decode uMod_getData.2.1 248 = .ok (.iload_n 1, 1) := by decide +kernel
theorem dMod_getData_249 : decode uMod_getData.2.1 249 = .ok (.iaload, 1) := by decide +kernel
theorem dMod_getData_250 : decode uMod_getData.2.1 250 = .ok (.iconst 1, 1) := by decide +kernel
theorem dMod_getData_251 : decode uMod_getData.2.1 251 = .ok (.iadd, 1) := by decide +kernel
theorem dMod_getData_252 : decode uMod_getData.2.1 252 = .ok (.iastore, 1) := by decide +kernel
theorem dMod_getData_253 : decode uMod_getData.2.1 253 = .ok (.iinc 6 1, 3) := by decide +kernel
theorem dMod_getData_256 : decode uMod_getData.2.1 256 = .ok (.goto (-85), 3) := by decide +kernel
theorem dMod_getData_259 : decode uMod_getData.2.1 259 = .ok (.aload_n 0, 1) := by decide +kernel
theorem dMod_getData_260 : decode uMod_getData.2.1 260 = .ok (.getfield 60, 3) := by decide +kernel
theorem dMod_getData_263 : decode uMod_getData.2.1 263 = .ok (.iload 5, 2) := by decide +kernel
theorem dMod_getData_265 : decode uMod_getData.2.1 265 = .ok (.aload_n 0, 1) := by decide +kernel
theorem dMod_getData_266 : decode uMod_getData.2.1 266 = .ok (.getfield 28, 3) := by decide +kernel
theorem dMod_getData_269 : decode uMod_getData.2.1 269 = .ok (.iload_n 2, 1) := by decide +kernel
theorem dMod_getData_270 : decode uMod_getData.2.1 270 = .ok (.baload, 1) := by decide +kernel
theorem dMod_getData_271 : decode uMod_getData.2.1 271 = .ok (.bastore, 1) := by decide +kernel
theorem dMod_getData_272 : decode uMod_getData.2.1 272 = .ok (.iconst 0, 1) := by decide +kernel
theorem dMod_getData_273 : decode uMod_getData.2.1 273 = .ok (.ireturn, 1) := by decide +kernel
theorem cs_Mod_262 : cV "InterleavedLinkModel" 262 uMod_getBlock 2 := ⟨⟨Or.inl (gW_in 1084 (by decide +kernel) rfl), (gW_in 74 (by decide +kernel) rfl), (gW_in 1087 (by decide +kernel) rfl), ⟨by decide, by decide⟩, by decide +kernel⟩, (gW_in 1086 (by decide +kernel) rfl), (gW_in 36 (by decide +kernel) rfl)⟩
theorem cs_Mod_265 : cV "InterleavedLinkModel" 265 uMod_getNew 3 := ⟨⟨Or.inl (gW_in 1121 (by decide +kernel) rfl), (gW_in 74 (by decide +kernel) rfl), (gW_in 1124 (by decide +kernel) rfl), ⟨by decide, by decide⟩, by decide +kernel⟩, (gW_in 1123 (by decide +kernel) rfl), (gW_in 44 (by decide +kernel) rfl)⟩
/-! ===== the reference over the state: headers and data ===== -/
set_option maxRecDepth 100000 in
set_option maxHeartbeats 4000000 in
theorem ct_newM {X : mX} {l : Launch} {M : mM} {A : zA} {e k : Nat} (hR : RR M A) (he : e < 2) (hk : k < 12) {z : Int32} {L : List (Int32 × Int32)} (hs : zI A (29 + 80 * e + 5 * k) 1 = 0) (hw : zW A e k = []) (hu : unrd (zU A e) k = []) (hLi : LiR M L) (hz : z = 0 ∨ z = 1) (hp : (zP A (1 - e)).length ≤ 44) : Ct X l uMod_getNew (rk 3 66) [.ref 169, .int (nI e), .int (nI (2 * k + 1)), .int z] M (fun r M' => r = some (.int (gRq (clI A e k) e k L z).1) ∧ RR M' (gRq (clI A e k) e k L z).2 ∧ Chg M M' mP no2) := by
  refine Ct.of (by decide) (Nat.le_of_ble_eq_true rfl) ?_
  show G X l uMod_getNew (rk 3 66) 0 0 M 0 [some (.ref 169), some (.int (nI e)), some (.int (nI (2 * k + 1))), some (.int z), none, none] [] _
  have hC : Chg M M mP no2 := Chg.rf
  refine g_iload_n 0 dMod_getNew_0 rfl ?_
  refine g_iload_n 1 dMod_getNew_1 rfl ?_
  refine g_callS 2 [_, _] dMod_getNew_2 cs_Mod_190 rfl rfl ⟨(Nat.le_of_ble_eq_true rfl), (Nat.le_of_ble_eq_true rfl)⟩ (Nat.le_of_ble_eq_true rfl) (ct_Mod_at (by omega) (by omega)) (Nat.le_of_ble_eq_true rfl) (Nat.le_of_ble_eq_true rfl) ?_
  rintro _ M2 ⟨rfl, hM2⟩
  rw [hM2]
  clear hM2 M2
  refine g_top (nI (12 * e + k)) (by rw [show (2 * k + 1) / 2 = k by omega]) ?_
  refine g_istore 5 dMod_getNew_5 (by decide) rfl ?_
  refine g_bipush 7 (nI 12) dMod_getNew_7 rfl ?_
  refine g_iload_n 9 dMod_getNew_9 rfl ?_
  refine g_imulN 10 dMod_getNew_10 ?_
  refine g_istore 11 dMod_getNew_11 (by decide) rfl ?_
  refine g_clM (A := A) he hk (fun M1 hR1 hC1 hL1 => ?_) k 0 (Nat.zero_add _) M hR hC hLi
  have h2 := clI_2 (A := A) (e := e) k
  exact g_newM hR1 hC1 he hk ((clI_I k fun g hg => by omega).trans hs) (by show (clI A e k).2.2.1 e k = []; rw [h2]; exact hw) (by show unrd ((clI A e k).2.2.2.1 e) k = []; rw [h2]; exact hu) hL1 hz (by rw [clI_P]; exact hp)

section STL
variable {s c op cu se ge : Int32}
theorem stR_cut (h : stR s c op cu se ge) (q : ¬ cu = 0) : s = 4 ∧ ¬ c = 0 := by
  rcases h with w | w | w | w | w | w
  · exact absurd w.2.2.2.1 q
  · exact absurd w.2.2.2.1 q
  · exact absurd w.2.2.2.1 q
  · exact absurd w.2.2.2.1 q
  · exact absurd w.2.2.2.1 q
  · exact ⟨w.1, by rw [w.2.1]; decide⟩
theorem stR_gs (h : stR s c op cu se ge) (q : cu = 0) (g : ¬ ge = 0) (t : ¬ se = 0) : s = 4 ∧ c = 0 := by
  rcases h with w | w | w | w | w | w
  · exact absurd w.2.2.2.2.2 g
  · exact absurd w.2.2.2.2.2 g
  · exact absurd w.2.2.2.2.2 g
  · exact absurd w.2.2.2.2.1 t
  · exact ⟨w.1, w.2.1⟩
  · rw [w.2.2.2.1] at q; exact absurd q (by decide)
theorem stR_g (h : stR s c op cu se ge) (q : cu = 0) (g : ¬ ge = 0) (t : se = 0) : s = 3 := by
  rcases h with w | w | w | w | w | w
  · exact absurd w.2.2.2.2.2 g
  · exact absurd w.2.2.2.2.2 g
  · exact absurd w.2.2.2.2.2 g
  · exact w.1
  · rw [w.2.2.2.2.1] at t; exact absurd t (by decide)
  · rw [w.2.2.2.1] at q; exact absurd q (by decide)
theorem stR_n (h : stR s c op cu se ge) (hs : ¬ s = 0) (q : cu = 0) (g : ge = 0) : s = 1 ∨ s = 2 := by
  rcases h with w | w | w | w | w | w
  · exact absurd w.1 hs
  · exact Or.inl w.1
  · exact Or.inr w.1
  · rw [w.2.2.2.2.2] at g; exact absurd g (by decide)
  · rw [w.2.2.2.2.2] at g; exact absurd g (by decide)
  · rw [w.2.2.2.1] at q; exact absurd q (by decide)
end STL
theorem RR.cm {M : mM} {A : zA} {e k : Nat} (h : RR M A) (he : e < 2) (hk : k < 12) : Rcame M (12 * e + k) = 0 ↔ zL A e k = none := by
  have := h.lst he hk
  rcases hz : zL A e k with _ | L
  · exact ⟨fun _ => rfl, fun _ => (this.1 hz).1⟩
  · refine ⟨fun q => ?_, fun q => by cases q⟩
    rw [(this.2 L hz).1] at q
    exact absurd q (by decide)
set_option maxRecDepth 100000 in
set_option maxHeartbeats 4000000 in
theorem ct_gHdM_no {X : mX} {l : Launch} {M : mM} {A : zA} {e : Nat} (hR : RR M A) (he : e < 2) {sl : Nat} {f : zF} (hsl : sl < 96) (hF : FrR M sl f) (hfs : ¬ isStr f.2.1) (hp : (zP A (1 - e)).length ≤ 44) : Ct X l uMod_getHeaders (rk 5 122) [.ref 169, .int (nI e), .int (nI sl)] M (fun r M' => r = some (.int (100 + 1)) ∧ RR M' (lerr A e 1) ∧ Chg M M' mP no2) := by
  refine Ct.of (by decide) (Nat.le_of_ble_eq_true rfl) ?_
  show G X l uMod_getHeaders (rk 5 122) 0 0 M 0 [some (.ref 169), some (.int (nI e)), some (.int (nI sl)), none, none] [] _
  have hC : Chg M M mP no2 := Chg.rf
  refine g_aload_n 0 dMod_getHeaders_0 rfl ?_
  refine g_getr 1 10 4 dMod_getHeaders_1 fs_Mod_22 rfl hR.1.mod hR.1.R_streams ?_
  refine g_iload_n 4 dMod_getHeaders_4 rfl ?_
  refine g_ialdN 5 dMod_getHeaders_5 hR.1.T_streams (by omega) (by decide) ?_
  refine g_top (f.2.1) (hF.2.1) ?_
  refine g_istore_n 6 dMod_getHeaders_6 (by decide) rfl ?_
  refine g_iload_n 7 dMod_getHeaders_7 rfl ?_
  refine g_callS 8 [_] dMod_getHeaders_8 cs_Mod_246 rfl rfl ⟨(Nat.le_of_ble_eq_true rfl), (Nat.le_of_ble_eq_true rfl)⟩ (Nat.le_of_ble_eq_true rfl) (ct_isStr_n hfs) (Nat.le_of_ble_eq_true rfl) (Nat.le_of_ble_eq_true rfl) ?_
  rintro _ M2 ⟨rfl, hM2⟩
  rw [hM2]
  clear hM2 M2
  refine g_if_eq 11 31 dMod_getHeaders_11 rfl (fun h11 => ?_) (fun h11 => ?_)
  · refine g_aload_n 31 dMod_getHeaders_31 rfl ?_
    refine g_iload_n 32 dMod_getHeaders_32 rfl ?_
    refine g_iconst 33 1 dMod_getHeaders_33 rfl ?_
    refine g_callV 34 [_, _] dMod_getHeaders_34 cs_Mod_249 rfl (ci := 10) rfl (by decide) hR.1.mod rfl ⟨(Nat.le_of_ble_eq_true rfl), (Nat.le_of_ble_eq_true rfl)⟩ (Nat.le_of_ble_eq_true rfl) (ct_lerrM hR he (show (zP A (1 - e)).length < 47 by omega)) (Nat.le_of_ble_eq_true rfl) (Nat.le_of_ble_eq_true rfl) ?_
    rintro _ M1 ⟨rfl, hR1, hc⟩
    have hC1 := hC.tr hc
    exact g_iret 37 dMod_getHeaders_37 rfl ⟨rfl, hR1, hC1⟩
  · exact absurd rfl h11

set_option maxRecDepth 100000 in
set_option maxHeartbeats 4000000 in
theorem ct_gHdM_id {X : mX} {l : Launch} {M : mM} {A : zA} {e k : Nat} (hR : RR M A) (he : e < 2) (hk : k < 12) {sl : Nat} {f : zF} (hsl : sl < 96) (hF : FrR M sl f) (hfs : f.2.1 = nI (2 * k + 1)) (hp : (zP A (1 - e)).length ≤ 44) (h0 : e = 0) (hs0 : zI A (29 + 80 * e + 5 * k) 1 = 0) : Ct X l uMod_getHeaders (rk 5 122) [.ref 169, .int (nI e), .int (nI sl)] M (fun r M' => r = some (.int (100 + 1)) ∧ RR M' (lerr A e 1) ∧ Chg M M' mP no2) := by
  refine Ct.of (by decide) (Nat.le_of_ble_eq_true rfl) ?_
  show G X l uMod_getHeaders (rk 5 122) 0 0 M 0 [some (.ref 169), some (.int (nI e)), some (.int (nI sl)), none, none] [] _
  have hC : Chg M M mP no2 := Chg.rf
  refine g_aload_n 0 dMod_getHeaders_0 rfl ?_
  refine g_getr 1 10 4 dMod_getHeaders_1 fs_Mod_22 rfl hR.1.mod hR.1.R_streams ?_
  refine g_iload_n 4 dMod_getHeaders_4 rfl ?_
  refine g_ialdN 5 dMod_getHeaders_5 hR.1.T_streams (by omega) (by decide) ?_
  refine g_top (nI ((2 * k + 1))) (hF.2.1.trans hfs) ?_
  refine g_istore_n 6 dMod_getHeaders_6 (by decide) rfl ?_
  refine g_iload_n 7 dMod_getHeaders_7 rfl ?_
  refine g_callS 8 [_] dMod_getHeaders_8 cs_Mod_246 rfl rfl ⟨(Nat.le_of_ble_eq_true rfl), (Nat.le_of_ble_eq_true rfl)⟩ (Nat.le_of_ble_eq_true rfl) (ct_isStr_y hk) (Nat.le_of_ble_eq_true rfl) (Nat.le_of_ble_eq_true rfl) ?_
  rintro _ M2 ⟨rfl, hM2⟩
  rw [hM2]
  clear hM2 M2
  refine g_if_eq 11 31 dMod_getHeaders_11 rfl (fun h11 => ?_) (fun h11 => ?_)
  · exact absurd h11 (by decide)
  · refine g_iload_n 14 dMod_getHeaders_14 rfl ?_
    refine g_if_neN 15 38 dMod_getHeaders_15 rfl (by omega) (fun h15 => ?_) (fun h15 => ?_)
    · exact absurd h15 (by omega)
    · refine g_aload_n 18 dMod_getHeaders_18 rfl ?_
      refine g_getr 19 10 13 dMod_getHeaders_19 fs_Mod_51 rfl hR.1.mod hR.1.R_opened ?_
      refine g_iload_n 22 dMod_getHeaders_22 rfl ?_
      refine g_iload_n 23 dMod_getHeaders_23 rfl ?_
      refine g_callS 24 [_, _] dMod_getHeaders_24 cs_Mod_190 rfl rfl ⟨(Nat.le_of_ble_eq_true rfl), (Nat.le_of_ble_eq_true rfl)⟩ (Nat.le_of_ble_eq_true rfl) (ct_Mod_at (by omega) (by omega)) (Nat.le_of_ble_eq_true rfl) (Nat.le_of_ble_eq_true rfl) ?_
      rintro _ M2 ⟨rfl, hM2⟩
      rw [hM2]
      clear hM2 M2
      refine g_top (nI (12 * e + k)) (by rw [show (2 * k + 1) / 2 = k by omega]) ?_
      refine g_zaldN 27 dMod_getHeaders_27 hR.1.T_opened (by omega) (by decide) ?_
      refine g_if_ne 28 38 dMod_getHeaders_28 rfl (fun h28 => ?_) (fun h28 => ?_)
      · exact absurd ((hR.opn he hk).mpr hs0) h28
      · refine g_aload_n 31 dMod_getHeaders_31 rfl ?_
        refine g_iload_n 32 dMod_getHeaders_32 rfl ?_
        refine g_iconst 33 1 dMod_getHeaders_33 rfl ?_
        refine g_callV 34 [_, _] dMod_getHeaders_34 cs_Mod_249 rfl (ci := 10) rfl (by decide) hR.1.mod rfl ⟨(Nat.le_of_ble_eq_true rfl), (Nat.le_of_ble_eq_true rfl)⟩ (Nat.le_of_ble_eq_true rfl) (ct_lerrM hR he (show (zP A (1 - e)).length < 47 by omega)) (Nat.le_of_ble_eq_true rfl) (Nat.le_of_ble_eq_true rfl) ?_
        rintro _ M1 ⟨rfl, hR1, hc⟩
        have hC1 := hC.tr hc
        exact g_iret 37 dMod_getHeaders_37 rfl ⟨rfl, hR1, hC1⟩

set_option maxRecDepth 100000 in
set_option maxHeartbeats 4000000 in
theorem ct_gHdM_bad {X : mX} {l : Launch} {M : mM} {A : zA} {e k : Nat} (hR : RR M A) (he : e < 2) (hk : k < 12) {sl : Nat} {f : zF} (hsl : sl < 96) (hF : FrR M sl f) (hfs : f.2.1 = nI (2 * k + 1)) (hp : (zP A (1 - e)).length ≤ 44) {mm : Nat} (h1 : f.1 = 1) (hnf : nfld f.2.2.2.2.2.2 ≤ 6) (hmb : (zB A e 1).2 = nI mm) (hmm : mm ≤ 200) (hmx : ∀ t, t ∈ f.2.2.2.2.2.2 → t.1 = 0 → ∃ m : Nat, m ≤ 200 ∧ t.2.1 = nI m) (hid : ¬ (e = 0 ∧ zI A (29 + 80 * e + 5 * k) 1 = 0)) (hd : (decA A e (zI A (26 + 80 * e) 0) f.2.2.2.2.2.2).1 = none) : Ct X l uMod_getHeaders (rk 5 122) [.ref 169, .int (nI e), .int (nI sl)] M (fun r M' => r = some (.int (100 + 9)) ∧ RR M' (lerr (decA A e (zI A (26 + 80 * e) 0) f.2.2.2.2.2.2).2 e 9) ∧ Chg M M' mP no2) := by
  refine Ct.of (by decide) (Nat.le_of_ble_eq_true rfl) ?_
  show G X l uMod_getHeaders (rk 5 122) 0 0 M 0 [some (.ref 169), some (.int (nI e)), some (.int (nI sl)), none, none] [] _
  have hC : Chg M M mP no2 := Chg.rf
  refine g_aload_n 0 dMod_getHeaders_0 rfl ?_
  refine g_getr 1 10 4 dMod_getHeaders_1 fs_Mod_22 rfl hR.1.mod hR.1.R_streams ?_
  refine g_iload_n 4 dMod_getHeaders_4 rfl ?_
  refine g_ialdN 5 dMod_getHeaders_5 hR.1.T_streams (by omega) (by decide) ?_
  refine g_top (nI ((2 * k + 1))) (hF.2.1.trans hfs) ?_
  refine g_istore_n 6 dMod_getHeaders_6 (by decide) rfl ?_
  refine g_iload_n 7 dMod_getHeaders_7 rfl ?_
  refine g_callS 8 [_] dMod_getHeaders_8 cs_Mod_246 rfl rfl ⟨(Nat.le_of_ble_eq_true rfl), (Nat.le_of_ble_eq_true rfl)⟩ (Nat.le_of_ble_eq_true rfl) (ct_isStr_y hk) (Nat.le_of_ble_eq_true rfl) (Nat.le_of_ble_eq_true rfl) ?_
  rintro _ M2 ⟨rfl, hM2⟩
  rw [hM2]
  clear hM2 M2
  refine g_if_eq 11 31 dMod_getHeaders_11 rfl (fun h11 => ?_) (fun h11 => ?_)
  · exact absurd h11 (by decide)
  · refine g_iload_n 14 dMod_getHeaders_14 rfl ?_
    refine g_if_neN 15 38 dMod_getHeaders_15 rfl (by omega) (fun h15 => ?_) (fun h15 => ?_)
    · refine g_aload_n 38 dMod_getHeaders_38 rfl ?_
      refine g_iload_n 39 dMod_getHeaders_39 rfl ?_
      refine g_iload_n 40 dMod_getHeaders_40 rfl ?_
      refine g_callV 41 [_, _] dMod_getHeaders_41 cs_Mod_262 rfl (ci := 10) rfl (by decide) hR.1.mod rfl ⟨(Nat.le_of_ble_eq_true rfl), (Nat.le_of_ble_eq_true rfl)⟩ (Nat.le_of_ble_eq_true rfl) (ct_blkM hR he hsl (hF.stf h1) hnf hmb hmm hmx) (Nat.le_of_ble_eq_true rfl) (Nat.le_of_ble_eq_true rfl) ?_
      rintro r M1 ⟨hR1, hcb, hn, _⟩
      obtain rfl := hn hd
      have hC1 := hC.tr (mp hcb fun a j q => by unfold blP at q; omega)
      refine g_if_ne 44 55 dMod_getHeaders_44 rfl (fun h44 => ?_) (fun h44 => ?_)
      · exact absurd rfl h44
      · refine g_aload_n 47 dMod_getHeaders_47 rfl ?_
        refine g_iload_n 48 dMod_getHeaders_48 rfl ?_
        refine g_bipush 49 9 dMod_getHeaders_49 rfl ?_
        refine g_callV 51 [_, _] dMod_getHeaders_51 cs_Mod_249 rfl (ci := 10) rfl (by decide) hR1.1.mod rfl ⟨(Nat.le_of_ble_eq_true rfl), (Nat.le_of_ble_eq_true rfl)⟩ (Nat.le_of_ble_eq_true rfl) (ct_lerrM hR1 he (by rw [decA_P]; omega)) (Nat.le_of_ble_eq_true rfl) (Nat.le_of_ble_eq_true rfl) ?_
        rintro _ M2 ⟨rfl, hR2, hc⟩
        have hC2 := hC1.tr hc
        exact g_iret 54 dMod_getHeaders_54 rfl (by (try rw [if_neg h15]); exact ⟨rfl, hR2, hC2⟩)
    · refine g_aload_n 18 dMod_getHeaders_18 rfl ?_
      refine g_getr 19 10 13 dMod_getHeaders_19 fs_Mod_51 rfl hR.1.mod hR.1.R_opened ?_
      refine g_iload_n 22 dMod_getHeaders_22 rfl ?_
      refine g_iload_n 23 dMod_getHeaders_23 rfl ?_
      refine g_callS 24 [_, _] dMod_getHeaders_24 cs_Mod_190 rfl rfl ⟨(Nat.le_of_ble_eq_true rfl), (Nat.le_of_ble_eq_true rfl)⟩ (Nat.le_of_ble_eq_true rfl) (ct_Mod_at (by omega) (by omega)) (Nat.le_of_ble_eq_true rfl) (Nat.le_of_ble_eq_true rfl) ?_
      rintro _ M2 ⟨rfl, hM2⟩
      rw [hM2]
      clear hM2 M2
      refine g_top (nI (12 * e + k)) (by rw [show (2 * k + 1) / 2 = k by omega]) ?_
      refine g_zaldN 27 dMod_getHeaders_27 hR.1.T_opened (by omega) (by decide) ?_
      refine g_if_ne 28 38 dMod_getHeaders_28 rfl (fun h28 => ?_) (fun h28 => ?_)
      · refine g_aload_n 38 dMod_getHeaders_38 rfl ?_
        refine g_iload_n 39 dMod_getHeaders_39 rfl ?_
        refine g_iload_n 40 dMod_getHeaders_40 rfl ?_
        refine g_callV 41 [_, _] dMod_getHeaders_41 cs_Mod_262 rfl (ci := 10) rfl (by decide) hR.1.mod rfl ⟨(Nat.le_of_ble_eq_true rfl), (Nat.le_of_ble_eq_true rfl)⟩ (Nat.le_of_ble_eq_true rfl) (ct_blkM hR he hsl (hF.stf h1) hnf hmb hmm hmx) (Nat.le_of_ble_eq_true rfl) (Nat.le_of_ble_eq_true rfl) ?_
        rintro r M1 ⟨hR1, hcb, hn, _⟩
        obtain rfl := hn hd
        have hC1 := hC.tr (mp hcb fun a j q => by unfold blP at q; omega)
        refine g_if_ne 44 55 dMod_getHeaders_44 rfl (fun h44 => ?_) (fun h44 => ?_)
        · exact absurd rfl h44
        · refine g_aload_n 47 dMod_getHeaders_47 rfl ?_
          refine g_iload_n 48 dMod_getHeaders_48 rfl ?_
          refine g_bipush 49 9 dMod_getHeaders_49 rfl ?_
          refine g_callV 51 [_, _] dMod_getHeaders_51 cs_Mod_249 rfl (ci := 10) rfl (by decide) hR1.1.mod rfl ⟨(Nat.le_of_ble_eq_true rfl), (Nat.le_of_ble_eq_true rfl)⟩ (Nat.le_of_ble_eq_true rfl) (ct_lerrM hR1 he (by rw [decA_P]; omega)) (Nat.le_of_ble_eq_true rfl) (Nat.le_of_ble_eq_true rfl) ?_
          rintro _ M2 ⟨rfl, hR2, hc⟩
          have hC2 := hC1.tr hc
          exact g_iret 54 dMod_getHeaders_54 rfl (by (try rw [if_pos h15]); exact ⟨rfl, hR2, hC2⟩)
      · exact absurd ⟨h15, (hR.opn he hk).mp h28⟩ hid

theorem ct_keepM2 {X : mX} {l : Launch} {M : mM} {A : zA} {e k sl : Nat} {f : zF} {L : List (Int32 × Int32)} (hR : RR M A) (he : e < 2) (hk : k < 12) (hLi : LiR M L) (hF : FrR M sl f) : Ct X l uMod_keepList (rk 0 0) [.ref 169, .int (nI (12 * e + k))] M (fun r M' => r = none ∧ RR M' (yL A e k (some L)) ∧ Chg M M' mP no2 ∧ FrR M' sl f) := (ct_keepM0 hR he hk hLi).post fun r M' h => ⟨h.1, h.2.1, mp h.2.2 (fun a j q => by unfold kpP at q; omega), hF.mv h.2.2 hR.1.1 fun a j q => by unfold kpP at q; omega⟩
set_option maxRecDepth 100000 in
set_option maxHeartbeats 4000000 in
theorem g_gHdM {X : mX} {l : Launch} {M0 M : mM} {A : zA} {e k sl : Nat} {f : zF} {L : List (Int32 × Int32)} {b : Bool} (hR : RR M A) (hC : Chg M0 M mP no2) (he : e < 2) (hk : k < 12) (hsl : sl < 96) (hF : FrR M sl f) (hLi : LiR M L) (hz : f.2.2.2.1 = 0 ∨ f.2.2.2.1 = 1) (hid : zI A (29 + 80 * e + 5 * k) 1 = 0 → zW A e k = [] ∧ unrd (zU A e) k = []) (hzl : (zL A e k = none → b = false) ∧ (¬ zL A e k = none → b = true)) (hp : (zP A (1 - e)).length ≤ 44) : G X l uMod_getHeaders (rk 5 122) 0 0 M 55 [some (.ref 169), some (.int (nI e)), some (.int (nI sl)), some (.int (nI (2 * k + 1))), none] [] (fun r M' => r = some (.int (gHd A b e k L f.2.2.2.1).1) ∧ RR M' (gHd A b e k L f.2.2.2.1).2 ∧ Chg M0 M' mP no2) := by
  refine g_iload_n 55 dMod_getHeaders_55 rfl ?_
  refine g_iload_n 56 dMod_getHeaders_56 rfl ?_
  refine g_callS 57 [_, _] dMod_getHeaders_57 cs_Mod_190 rfl rfl ⟨(Nat.le_of_ble_eq_true rfl), (Nat.le_of_ble_eq_true rfl)⟩ (Nat.le_of_ble_eq_true rfl) (ct_Mod_at (by omega) (by omega)) (Nat.le_of_ble_eq_true rfl) (Nat.le_of_ble_eq_true rfl) ?_
  rintro _ M2 ⟨rfl, hM2⟩
  rw [hM2]
  clear hM2 M2
  refine g_top (nI (12 * e + k)) (by rw [show (2 * k + 1) / 2 = k by omega]) ?_
  refine g_istore 60 dMod_getHeaders_60 (by decide) rfl ?_
  refine g_aload_n 62 dMod_getHeaders_62 rfl ?_
  refine g_getr 63 10 13 dMod_getHeaders_63 fs_Mod_51 rfl hR.1.mod hR.1.R_opened ?_
  refine g_iload 66 dMod_getHeaders_66 rfl ?_
  refine g_zaldN 68 dMod_getHeaders_68 hR.1.T_opened (by omega) (by decide) ?_
  refine g_if_ne 69 85 dMod_getHeaders_69 rfl (fun h69 => ?_) (fun h69 => ?_)
  · have hs : ¬ zI A (29 + 80 * e + 5 * k) 1 = 0 := fun q => h69 ((hR.opn he hk).mpr q)
    refine g_aload_n 85 dMod_getHeaders_85 rfl ?_
    refine g_getr 86 10 14 dMod_getHeaders_86 fs_Mod_54 rfl hR.1.mod hR.1.R_cut ?_
    refine g_iload 89 dMod_getHeaders_89 rfl ?_
    refine g_zaldN 91 dMod_getHeaders_91 hR.1.T_cut (by omega) (by decide) ?_
    refine g_if_eq 92 97 dMod_getHeaders_92 rfl (fun h92 => ?_) (fun h92 => ?_)
    · refine g_aload_n 97 dMod_getHeaders_97 rfl ?_
      refine g_getr 98 10 16 dMod_getHeaders_98 fs_Mod_60 rfl hR.1.mod hR.1.R_gotEnd ?_
      refine g_iload 101 dMod_getHeaders_101 rfl ?_
      refine g_zaldN 103 dMod_getHeaders_103 hR.1.T_gotEnd (by omega) (by decide) ?_
      refine g_if_eq 104 135 dMod_getHeaders_104 rfl (fun h104 => ?_) (fun h104 => ?_)
      · have q12 := stR_n (hR.stk he hk).1 hs h92 h104
        have q4 : ¬ zI A (29 + 80 * e + 5 * k) 1 = 4 := by rcases q12 with q | q <;> rw [q] <;> decide
        have q3 : ¬ zI A (29 + 80 * e + 5 * k) 1 = 3 := by rcases q12 with q | q <;> rw [q] <;> decide
        refine g_aload_n 135 dMod_getHeaders_135 rfl ?_
        refine g_getr 136 10 17 dMod_getHeaders_136 fs_Mod_63 rfl hR.1.mod hR.1.R_came ?_
        refine g_iload 139 dMod_getHeaders_139 rfl ?_
        refine g_zaldN 141 dMod_getHeaders_141 hR.1.T_came (by omega) (by decide) ?_
        refine g_if_eq 142 154 dMod_getHeaders_142 rfl (fun h142 => ?_) (fun h142 => ?_)
        · refine g_aload_n 154 dMod_getHeaders_154 rfl ?_
          refine g_iload 155 dMod_getHeaders_155 rfl ?_
          refine g_callV 157 [_] dMod_getHeaders_157 cs_Mod_269 rfl (ci := 10) rfl (by decide) hR.1.mod rfl ⟨(Nat.le_of_ble_eq_true rfl), (Nat.le_of_ble_eq_true rfl)⟩ (Nat.le_of_ble_eq_true rfl) (ct_keepM2 hR he hk hLi hF) (Nat.le_of_ble_eq_true rfl) (Nat.le_of_ble_eq_true rfl) ?_
          rintro _ M1 ⟨rfl, hR1, hc, hF2⟩
          have hC1 := hC.tr hc
          refine g_aload_n 160 dMod_getHeaders_160 rfl ?_
          refine g_getr 161 10 16 dMod_getHeaders_161 fs_Mod_60 rfl hR1.1.mod hR1.1.R_gotEnd ?_
          refine g_iload 164 dMod_getHeaders_164 rfl ?_
          refine g_aload_n 166 dMod_getHeaders_166 rfl ?_
          refine g_getr 167 10 6 dMod_getHeaders_167 fs_Mod_28 rfl hR1.1.mod hR1.1.R_flags ?_
          refine g_iload_n 170 dMod_getHeaders_170 rfl ?_
          refine g_zaldN 171 dMod_getHeaders_171 hR1.1.T_flags (by omega) (by decide) ?_
          refine g_top (f.2.2.2.1) (hF2.2.2.2.1) ?_
          refine g_zastN 172 dMod_getHeaders_172 hR1.1.T_gotEnd (by omega) (by decide) hz ?_
          refine g_memM (hR1.eG he hk q12 hz) (kM hC1 (by decide)) (fun M2 hR2 hC2 => ?_)
          refine g_iconst 173 0 dMod_getHeaders_173 rfl ?_
          exact g_iret 174 dMod_getHeaders_174 rfl (by have hb : b = false := hzl.1 ((hR.cm he hk).mp h142); unfold gHd; rw [if_neg hs, if_neg q4, if_neg q3, hb, if_pos rfl]; exact ⟨rfl, hR2, hC2⟩)
        · refine g_aload_n 145 dMod_getHeaders_145 rfl ?_
          refine g_iload_n 146 dMod_getHeaders_146 rfl ?_
          refine g_iload_n 147 dMod_getHeaders_147 rfl ?_
          refine g_iconst 148 1 dMod_getHeaders_148 rfl ?_
          refine g_iconst 149 0 dMod_getHeaders_149 rfl ?_
          refine g_callV 150 [_, _, _, _] dMod_getHeaders_150 cs_Mod_255 rfl (ci := 10) rfl (by decide) hR.1.mod rfl ⟨(Nat.le_of_ble_eq_true rfl), (Nat.le_of_ble_eq_true rfl)⟩ (Nat.le_of_ble_eq_true rfl) (ct_rstM hR he hk hs hp) (Nat.le_of_ble_eq_true rfl) (Nat.le_of_ble_eq_true rfl) ?_
          rintro _ M1 ⟨rfl, hR1, hc⟩
          have hC1 := hC.tr hc
          exact g_iret 153 dMod_getHeaders_153 rfl (by have hb : b = true := hzl.2 (fun q => h142 ((hR.cm he hk).mpr q)); unfold gHd; rw [if_neg hs, if_neg q4, if_neg q3, hb, if_neg (by decide)]; exact ⟨rfl, hR1, hC1⟩)
      · refine g_aload_n 107 dMod_getHeaders_107 rfl ?_
        refine g_getr 108 10 15 dMod_getHeaders_108 fs_Mod_57 rfl hR.1.mod hR.1.R_sentEnd ?_
        refine g_iload 111 dMod_getHeaders_111 rfl ?_
        refine g_zaldN 113 dMod_getHeaders_113 hR.1.T_sentEnd (by omega) (by decide) ?_
        refine g_if_eq 114 126 dMod_getHeaders_114 rfl (fun h114 => ?_) (fun h114 => ?_)
        · refine g_aload_n 126 dMod_getHeaders_126 rfl ?_
          refine g_iload_n 127 dMod_getHeaders_127 rfl ?_
          refine g_iload_n 128 dMod_getHeaders_128 rfl ?_
          refine g_iconst 129 5 dMod_getHeaders_129 rfl ?_
          refine g_iconst 130 0 dMod_getHeaders_130 rfl ?_
          refine g_callV 131 [_, _, _, _] dMod_getHeaders_131 cs_Mod_255 rfl (ci := 10) rfl (by decide) hR.1.mod rfl ⟨(Nat.le_of_ble_eq_true rfl), (Nat.le_of_ble_eq_true rfl)⟩ (Nat.le_of_ble_eq_true rfl) (ct_rstM hR he hk hs hp) (Nat.le_of_ble_eq_true rfl) (Nat.le_of_ble_eq_true rfl) ?_
          rintro _ M1 ⟨rfl, hR1, hc⟩
          have hC1 := hC.tr hc
          exact g_iret 134 dMod_getHeaders_134 rfl (by unfold gHd; rw [if_neg hs]; first | (obtain ⟨q4, q2⟩ := stR_gs (hR.stk he hk).1 h92 h104 h114; rw [if_pos q4, if_pos q2]; exact ⟨rfl, hR1, hC1⟩) | (have q3 := stR_g (hR.stk he hk).1 h92 h104 h114; rw [if_neg (by rw [q3]; decide), if_pos q3]; exact ⟨rfl, hR1, hC1⟩))
        · refine g_aload_n 117 dMod_getHeaders_117 rfl ?_
          refine g_iload_n 118 dMod_getHeaders_118 rfl ?_
          refine g_iconst 119 5 dMod_getHeaders_119 rfl ?_
          refine g_callV 120 [_, _] dMod_getHeaders_120 cs_Mod_249 rfl (ci := 10) rfl (by decide) hR.1.mod rfl ⟨(Nat.le_of_ble_eq_true rfl), (Nat.le_of_ble_eq_true rfl)⟩ (Nat.le_of_ble_eq_true rfl) (ct_lerrM hR he (by omega)) (Nat.le_of_ble_eq_true rfl) (Nat.le_of_ble_eq_true rfl) ?_
          rintro _ M1 ⟨rfl, hR1, hc⟩
          have hC1 := hC.tr hc
          refine g_goto 123 134 dMod_getHeaders_123 rfl ?_
          exact g_iret 134 dMod_getHeaders_134 rfl (by unfold gHd; rw [if_neg hs]; first | (obtain ⟨q4, q2⟩ := stR_gs (hR.stk he hk).1 h92 h104 h114; rw [if_pos q4, if_pos q2]; exact ⟨rfl, hR1, hC1⟩) | (have q3 := stR_g (hR.stk he hk).1 h92 h104 h114; rw [if_neg (by rw [q3]; decide), if_pos q3]; exact ⟨rfl, hR1, hC1⟩))
    · refine g_iconst 95 0 dMod_getHeaders_95 rfl ?_
      exact g_iret 96 dMod_getHeaders_96 rfl (by obtain ⟨q4, q2⟩ := stR_cut (hR.stk he hk).1 h92; unfold gHd; rw [if_neg hs, if_pos q4, if_neg q2]; exact ⟨rfl, hR, hC⟩)
  · have hs : zI A (29 + 80 * e + 5 * k) 1 = 0 := (hR.opn he hk).mp h69
    refine g_aload_n 72 dMod_getHeaders_72 rfl ?_
    refine g_iload_n 73 dMod_getHeaders_73 rfl ?_
    refine g_iload_n 74 dMod_getHeaders_74 rfl ?_
    refine g_aload_n 75 dMod_getHeaders_75 rfl ?_
    refine g_getr 76 10 6 dMod_getHeaders_76 fs_Mod_28 rfl hR.1.mod hR.1.R_flags ?_
    refine g_iload_n 79 dMod_getHeaders_79 rfl ?_
    refine g_zaldN 80 dMod_getHeaders_80 hR.1.T_flags (by omega) (by decide) ?_
    refine g_top (f.2.2.2.1) (hF.2.2.2.1) ?_
    refine g_callV 81 [_, _, _] dMod_getHeaders_81 cs_Mod_265 rfl (ci := 10) rfl (by decide) hR.1.mod rfl ⟨(Nat.le_of_ble_eq_true rfl), (Nat.le_of_ble_eq_true rfl)⟩ (Nat.le_of_ble_eq_true rfl) (ct_newM hR he hk hs (hid hs).1 (hid hs).2 hLi hz hp) (Nat.le_of_ble_eq_true rfl) (Nat.le_of_ble_eq_true rfl) ?_
    rintro _ M1 ⟨rfl, hR1, hc⟩
    have hC1 := hC.tr hc
    exact g_iret 84 dMod_getHeaders_84 rfl (by unfold gHd; rw [if_pos hs]; exact ⟨rfl, hR1, hC1⟩)
theorem decA_W (A : zA) (e : Nat) (lim : Int32) (S : List zS) : zW (decA A e lim S).2 = zW A := by unfold decA; split <;> rfl
theorem decA_U (A : zA) (e : Nat) (lim : Int32) (S : List zS) : zU (decA A e lim S).2 = zU A := by unfold decA; split <;> rfl
theorem decA_S1 {A : zA} {e k : Nat} {lim : Int32} {S : List zS} : zI (decA A e lim S).2 (29 + 80 * e + 5 * k) 1 = zI A (29 + 80 * e + 5 * k) 1 := by
  unfold decA
  split <;> exact up2_a (by omega)
set_option maxRecDepth 100000 in
set_option maxHeartbeats 4000000 in
theorem ct_gHdM {X : mX} {l : Launch} {M : mM} {A : zA} {e k : Nat} (hR : RR M A) (he : e < 2) (hk : k < 12) {sl : Nat} {f : zF} (hsl : sl < 96) (hF : FrR M sl f) (hfs : f.2.1 = nI (2 * k + 1)) (hp : (zP A (1 - e)).length ≤ 44) {mm : Nat} (h1 : f.1 = 1) (hnf : nfld f.2.2.2.2.2.2 ≤ 6) (hmb : (zB A e 1).2 = nI mm) (hmm : mm ≤ 200) (hmx : ∀ t, t ∈ f.2.2.2.2.2.2 → t.1 = 0 → ∃ m : Nat, m ≤ 200 ∧ t.2.1 = nI m) (hid : ¬ (e = 0 ∧ zI A (29 + 80 * e + 5 * k) 1 = 0)) {L : List (Int32 × Int32)} {b : Bool} (hd : (decA A e (zI A (26 + 80 * e) 0) f.2.2.2.2.2.2).1 = some L) (hz : f.2.2.2.1 = 0 ∨ f.2.2.2.1 = 1) (hidl : zI A (29 + 80 * e + 5 * k) 1 = 0 → zW A e k = [] ∧ unrd (zU A e) k = []) (hzl : (zL A e k = none → b = false) ∧ (¬ zL A e k = none → b = true)) : Ct X l uMod_getHeaders (rk 5 122) [.ref 169, .int (nI e), .int (nI sl)] M (fun r M' => r = some (.int (gHd (decA A e (zI A (26 + 80 * e) 0) f.2.2.2.2.2.2).2 b e k L f.2.2.2.1).1) ∧ RR M' (gHd (decA A e (zI A (26 + 80 * e) 0) f.2.2.2.2.2.2).2 b e k L f.2.2.2.1).2 ∧ Chg M M' mP no2) := by
  refine Ct.of (by decide) (Nat.le_of_ble_eq_true rfl) ?_
  show G X l uMod_getHeaders (rk 5 122) 0 0 M 0 [some (.ref 169), some (.int (nI e)), some (.int (nI sl)), none, none] [] _
  have hC : Chg M M mP no2 := Chg.rf
  refine g_aload_n 0 dMod_getHeaders_0 rfl ?_
  refine g_getr 1 10 4 dMod_getHeaders_1 fs_Mod_22 rfl hR.1.mod hR.1.R_streams ?_
  refine g_iload_n 4 dMod_getHeaders_4 rfl ?_
  refine g_ialdN 5 dMod_getHeaders_5 hR.1.T_streams (by omega) (by decide) ?_
  refine g_top (nI ((2 * k + 1))) (hF.2.1.trans hfs) ?_
  refine g_istore_n 6 dMod_getHeaders_6 (by decide) rfl ?_
  refine g_iload_n 7 dMod_getHeaders_7 rfl ?_
  refine g_callS 8 [_] dMod_getHeaders_8 cs_Mod_246 rfl rfl ⟨(Nat.le_of_ble_eq_true rfl), (Nat.le_of_ble_eq_true rfl)⟩ (Nat.le_of_ble_eq_true rfl) (ct_isStr_y hk) (Nat.le_of_ble_eq_true rfl) (Nat.le_of_ble_eq_true rfl) ?_
  rintro _ M2 ⟨rfl, hM2⟩
  rw [hM2]
  clear hM2 M2
  refine g_if_eq 11 31 dMod_getHeaders_11 rfl (fun h11 => ?_) (fun h11 => ?_)
  · exact absurd h11 (by decide)
  · refine g_iload_n 14 dMod_getHeaders_14 rfl ?_
    refine g_if_neN 15 38 dMod_getHeaders_15 rfl (by omega) (fun h15 => ?_) (fun h15 => ?_)
    · refine g_aload_n 38 dMod_getHeaders_38 rfl ?_
      refine g_iload_n 39 dMod_getHeaders_39 rfl ?_
      refine g_iload_n 40 dMod_getHeaders_40 rfl ?_
      refine g_callV 41 [_, _] dMod_getHeaders_41 cs_Mod_262 rfl (ci := 10) rfl (by decide) hR.1.mod rfl ⟨(Nat.le_of_ble_eq_true rfl), (Nat.le_of_ble_eq_true rfl)⟩ (Nat.le_of_ble_eq_true rfl) (ct_blkM hR he hsl (hF.stf h1) hnf hmb hmm hmx) (Nat.le_of_ble_eq_true rfl) (Nat.le_of_ble_eq_true rfl) ?_
      rintro r M1 ⟨hR1, hcb, _, hn⟩
      obtain ⟨rfl, hLi⟩ := hn L hd
      have hF2 := hF.mv hcb hR.1.1 (fun a j q => by unfold blP at q; omega)
      have hC1 := hC.tr (mp hcb fun a j q => by unfold blP at q; omega)
      refine g_if_ne 44 55 dMod_getHeaders_44 rfl (fun h44 => ?_) (fun h44 => ?_)
      · exact g_gHdM hR1 hC1 he hk hsl hF2 hLi hz (by rw [decA_S1, decA_W, decA_U]; exact hidl) (by rw [decA_L]; exact hzl) (by rw [decA_P]; exact hp)
      · exact absurd h44 (by decide)
    · refine g_aload_n 18 dMod_getHeaders_18 rfl ?_
      refine g_getr 19 10 13 dMod_getHeaders_19 fs_Mod_51 rfl hR.1.mod hR.1.R_opened ?_
      refine g_iload_n 22 dMod_getHeaders_22 rfl ?_
      refine g_iload_n 23 dMod_getHeaders_23 rfl ?_
      refine g_callS 24 [_, _] dMod_getHeaders_24 cs_Mod_190 rfl rfl ⟨(Nat.le_of_ble_eq_true rfl), (Nat.le_of_ble_eq_true rfl)⟩ (Nat.le_of_ble_eq_true rfl) (ct_Mod_at (by omega) (by omega)) (Nat.le_of_ble_eq_true rfl) (Nat.le_of_ble_eq_true rfl) ?_
      rintro _ M2 ⟨rfl, hM2⟩
      rw [hM2]
      clear hM2 M2
      refine g_top (nI (12 * e + k)) (by rw [show (2 * k + 1) / 2 = k by omega]) ?_
      refine g_zaldN 27 dMod_getHeaders_27 hR.1.T_opened (by omega) (by decide) ?_
      refine g_if_ne 28 38 dMod_getHeaders_28 rfl (fun h28 => ?_) (fun h28 => ?_)
      · refine g_aload_n 38 dMod_getHeaders_38 rfl ?_
        refine g_iload_n 39 dMod_getHeaders_39 rfl ?_
        refine g_iload_n 40 dMod_getHeaders_40 rfl ?_
        refine g_callV 41 [_, _] dMod_getHeaders_41 cs_Mod_262 rfl (ci := 10) rfl (by decide) hR.1.mod rfl ⟨(Nat.le_of_ble_eq_true rfl), (Nat.le_of_ble_eq_true rfl)⟩ (Nat.le_of_ble_eq_true rfl) (ct_blkM hR he hsl (hF.stf h1) hnf hmb hmm hmx) (Nat.le_of_ble_eq_true rfl) (Nat.le_of_ble_eq_true rfl) ?_
        rintro r M1 ⟨hR1, hcb, _, hn⟩
        obtain ⟨rfl, hLi⟩ := hn L hd
        have hF2 := hF.mv hcb hR.1.1 (fun a j q => by unfold blP at q; omega)
        have hC1 := hC.tr (mp hcb fun a j q => by unfold blP at q; omega)
        refine g_if_ne 44 55 dMod_getHeaders_44 rfl (fun h44 => ?_) (fun h44 => ?_)
        · exact g_gHdM hR1 hC1 he hk hsl hF2 hLi hz (by rw [decA_S1, decA_W, decA_U]; exact hidl) (by rw [decA_L]; exact hzl) (by rw [decA_P]; exact hp)
        · exact absurd h44 (by decide)
      · exact absurd ⟨h15, (hR.opn he hk).mp h28⟩ hid

/-- bytes appended to the unread ones -/
def unI (M M1 : mM) (e n : Nat) (U : List (Int32 × Int32)) (s : Int32) (B : List Int32) : Prop := Chg M M1 (unP e) no2 ∧ UnR M1 e (U ++ (B.take n).map fun b => (s, b))
theorem unI_st {M M1 : mM} {e n : Nat} {U : List (Int32 × Int32)} {s x : Int32} {B : List Int32} (h : unI M M1 e n U s B) (hx : B[n]? = some x) (hl : U.length + n < 40) : unI M (setI (setI (setI M1 200 (40 * e + (U.length + n)) s) 201 (40 * e + (U.length + n)) x) 199 e (nI (U.length + n + 1))) e (n + 1) U s B := by
  obtain ⟨h1, g1, g2, g3⟩ := h
  have hn := (List.getElem?_eq_some_iff.mp hx).1
  have hlen : (U ++ (B.take n).map fun b => (s, b)).length = U.length + n := by rw [List.length_append, List.length_map, List.length_take, Nat.min_eq_left (by omega)]
  have hb : (U ++ (B.take (n + 1)).map fun b => (s, b)) = (U ++ (B.take n).map fun b => (s, b)) ++ [(s, x)] := by
    rw [List.take_succ, hx, List.append_assoc, List.map_append]
    rfl
  refine ⟨((h1.setI (Or.inl (Or.inr (Or.inl ⟨Or.inl rfl, by omega, by omega⟩)))).setI (Or.inl (Or.inr (Or.inl ⟨Or.inr rfl, by omega, by omega⟩)))).setI (Or.inl (Or.inl ⟨rfl, rfl⟩)), ?_⟩
  rw [hb]
  refine ⟨?_, by rw [List.length_append, hlen]; exact hl, fun j y hy => ?_⟩
  · rw [List.length_append, hlen]
    exact sI_s
  · show mI _ 200 _ = _ ∧ mI _ 201 _ = _
    by_cases hj : j < U.length + n
    · rw [List.getElem?_append_left (by omega)] at hy
      exact ⟨by rw [sI_a (by decide), sI_a (by decide), sI_k (by omega)]; exact (g3 j y hy).1, by rw [sI_a (by decide), sI_k (by omega), sI_a (by decide)]; exact (g3 j y hy).2⟩
    · rw [List.getElem?_append_right (by omega)] at hy
      have h6 := (List.getElem?_eq_some_iff.mp hy).1
      have hj2 : j = U.length + n := by rw [hlen] at h6; simp at h6; omega
      subst hj2
      rw [hlen, Nat.sub_self] at hy
      simp at hy
      subst hy
      exact ⟨by rw [sI_a (by decide), sI_a (by decide), sI_s], by rw [sI_a (by decide), sI_s]⟩
set_option maxRecDepth 100000 in
set_option maxHeartbeats 4000000 in
theorem g_unM {X : mX} {l : Launch} {M : mM} {e k sl : Nat} {U : List (Int32 × Int32)} {B : List Int32} {Q : Option Value → mM → Prop} (hSM : Shp M) (he : e < 2) (hk : k < 12) (hsl : sl < 96) (hB : ∀ j x, B[j]? = some x → x = byR (Rloads M sl) j) (hl : U.length + B.length ≤ 40) (hq : ∀ M', unI M M' e B.length U (nI (2 * k + 1)) B → G X l uMod_getData (rk 3 74) 0 0 M' 259 [some (.ref 169), some (.int (nI e)), some (.int (nI sl)), some (.int (nI (2 * k + 1))), some (.int (nI B.length)), some (.int (nI (12 * e + k))), some (.int (nI B.length))] [] Q) : ∀ (j n : Nat), n + j = B.length → ∀ M1, unI M M1 e n U (nI (2 * k + 1)) B → G X l uMod_getData (rk 3 74) 0 0 M1 171 [some (.ref 169), some (.int (nI e)), some (.int (nI sl)), some (.int (nI (2 * k + 1))), some (.int (nI B.length)), some (.int (nI (12 * e + k))), some (.int (nI n))] [] Q
  | 0, n, hn, M1, hI => by
    have hn : n = B.length := by omega
    subst hn
    refine g_iload 171 dMod_getData_171 rfl ?_
    refine g_iload 173 dMod_getData_173 rfl ?_
    refine g_icmp_geN 175 259 dMod_getData_175 rfl (by omega) (by omega) (fun h175 => ?_) (fun h175 => ?_)
    · exact hq M1 hI
    · exact absurd (Nat.le_refl _) h175
  | j + 1, n, hn, M1, hI => by
    have hS := hSM.mv hI.1 (fun _ _ q => q.elim)
    have hlt : n < B.length := by omega
    have hx : B[n]? = some B[n] := List.getElem?_eq_getElem hlt
    have hxb := hB n _ hx
    have hld : mL M1 178 sl = mL M 178 sl := hI.1.2.2.2.1 178 sl (by have := hSM.1; omega) (by unfold unP; omega)
    have ih := g_unM (X := X) (l := l) hSM he hk hsl hB hl hq j (n + 1) (by omega)
    refine g_iload 171 dMod_getData_171 rfl ?_
    refine g_iload 173 dMod_getData_173 rfl ?_
    refine g_icmp_geN 175 259 dMod_getData_175 rfl (by omega) (by omega) (fun h175 => ?_) (fun h175 => ?_)
    · exact absurd h175 (by omega)
    · refine g_aload_n 178 dMod_getData_178 rfl ?_
      refine g_getr 179 10 30 dMod_getData_179 fs_Mod_102 rfl hS.mod hS.R_unreadStream ?_
      refine g_bipush 182 (nI 40) dMod_getData_182 rfl ?_
      refine g_iload_n 184 dMod_getData_184 rfl ?_
      refine g_imulN 185 dMod_getData_185 ?_
      refine g_aload_n 186 dMod_getData_186 rfl ?_
      refine g_getr 187 10 29 dMod_getData_187 fs_Mod_99 rfl hS.mod hS.R_unread ?_
      refine g_iload_n 190 dMod_getData_190 rfl ?_
      refine g_ialdN 191 dMod_getData_191 hS.T_unread (by omega) (by decide) ?_
      refine g_top (nI ((U.length + n))) (hI.2.1.trans (by rw [List.length_append, List.length_map, List.length_take, Nat.min_eq_left (by omega)])) ?_
      refine g_iaddN 192 dMod_getData_192 ?_
      refine g_iload_n 193 dMod_getData_193 rfl ?_
      refine g_iastN 194 dMod_getData_194 hS.T_unreadStream (by omega) (by decide) ?_
      refine g_aload_n 195 dMod_getData_195 rfl ?_
      refine g_getr 196 10 31 dMod_getData_196 fs_Mod_105 rfl hS.mod hS.R_unreadByte ?_
      refine g_bipush 199 (nI 40) dMod_getData_199 rfl ?_
      refine g_iload_n 201 dMod_getData_201 rfl ?_
      refine g_imulN 202 dMod_getData_202 ?_
      refine g_aload_n 203 dMod_getData_203 rfl ?_
      refine g_getr 204 10 29 dMod_getData_204 fs_Mod_99 rfl hS.mod hS.R_unread ?_
      refine g_iload_n 207 dMod_getData_207 rfl ?_
      refine g_ialdN 208 dMod_getData_208 hS.T_unread (by omega) (by decide) ?_
      refine g_top (nI ((U.length + n))) ((sI_a (by decide)).trans (hI.2.1.trans (by rw [List.length_append, List.length_map, List.length_take, Nat.min_eq_left (by omega)]))) ?_
      refine g_iaddN 209 dMod_getData_209 ?_
      refine g_iload 210 dMod_getData_210 rfl ?_
      refine g_bipush 212 (nI 8) dMod_getData_212 rfl ?_
      refine g_icmp_geN 214 237 dMod_getData_214 rfl (by omega) (by omega) (fun h214 => ?_) (fun h214 => ?_)
      · refine g_iconst 237 0 dMod_getData_237 rfl ?_
        refine g_top B[n] (by rw [hxb]; unfold byR; first | (rw [if_neg (by omega)]; done) | (rw [if_pos (by omega), show Rloads M sl = mL M1 178 sl from hld.symm]; rfl)) ?_
        refine g_iastN 238 dMod_getData_238 hS.T_unreadByte (by omega) (by decide) ?_
        refine g_aload_n 239 dMod_getData_239 rfl ?_
        refine g_getr 240 10 29 dMod_getData_240 fs_Mod_99 rfl hS.mod hS.R_unread ?_
        refine g_iload_n 243 dMod_getData_243 rfl ?_
        refine g_aload_n 244 dMod_getData_244 rfl ?_
        refine g_getr 245 10 29 dMod_getData_245 fs_Mod_99 rfl hS.mod hS.R_unread ?_
        refine g_iload_n 248 dMod_getData_248 rfl ?_
        refine g_ialdN 249 dMod_getData_249 hS.T_unread (by omega) (by decide) ?_
        refine g_top (nI ((U.length + n))) ((sI_a (by decide)).trans ((sI_a (by decide)).trans (hI.2.1.trans (by rw [List.length_append, List.length_map, List.length_take, Nat.min_eq_left (by omega)])))) ?_
        refine g_iconst 250 (nI 1) dMod_getData_250 rfl ?_
        refine g_iaddN 251 dMod_getData_251 ?_
        refine g_iastN 252 dMod_getData_252 hS.T_unread (by omega) (by decide) ?_
        refine g_iincN 253 dMod_getData_253 rfl (by decide) rfl ?_
        refine g_goto 256 171 dMod_getData_256 rfl ?_
        exact ih _ (unI_st hI hx (by omega))
      · refine g_aload_n 217 dMod_getData_217 rfl ?_
        refine g_getr 218 10 8 dMod_getData_218 fs_Mod_35 rfl hS.mod hS.R_loads ?_
        refine g_iload_n 221 dMod_getData_221 rfl ?_
        refine g_laldN 222 dMod_getData_222 hS.T_loads (by omega) (by decide) ?_
        refine g_bipush 223 (nI 8) dMod_getData_223 rfl ?_
        refine g_iload 225 dMod_getData_225 rfl ?_
        refine g_imulN 227 dMod_getData_227 ?_
        refine g_lushr 228 dMod_getData_228 ?_
        refine g_l2i 229 dMod_getData_229 ?_
        refine g_sipush 230 255 dMod_getData_230 rfl ?_
        refine g_iand 233 dMod_getData_233 ?_
        refine g_goto 234 238 dMod_getData_234 rfl ?_
        refine g_top B[n] (by rw [hxb]; unfold byR; first | (rw [if_neg (by omega)]; done) | (rw [if_pos (by omega), show Rloads M sl = mL M1 178 sl from hld.symm]; rfl)) ?_
        refine g_iastN 238 dMod_getData_238 hS.T_unreadByte (by omega) (by decide) ?_
        refine g_aload_n 239 dMod_getData_239 rfl ?_
        refine g_getr 240 10 29 dMod_getData_240 fs_Mod_99 rfl hS.mod hS.R_unread ?_
        refine g_iload_n 243 dMod_getData_243 rfl ?_
        refine g_aload_n 244 dMod_getData_244 rfl ?_
        refine g_getr 245 10 29 dMod_getData_245 fs_Mod_99 rfl hS.mod hS.R_unread ?_
        refine g_iload_n 248 dMod_getData_248 rfl ?_
        refine g_ialdN 249 dMod_getData_249 hS.T_unread (by omega) (by decide) ?_
        refine g_top (nI ((U.length + n))) ((sI_a (by decide)).trans ((sI_a (by decide)).trans (hI.2.1.trans (by rw [List.length_append, List.length_map, List.length_take, Nat.min_eq_left (by omega)])))) ?_
        refine g_iconst 250 (nI 1) dMod_getData_250 rfl ?_
        refine g_iaddN 251 dMod_getData_251 ?_
        refine g_iastN 252 dMod_getData_252 hS.T_unread (by omega) (by decide) ?_
        refine g_iincN 253 dMod_getData_253 rfl (by decide) rfl ?_
        refine g_goto 256 171 dMod_getData_256 rfl ?_
        exact ih _ (unI_st hI hx (by omega))
