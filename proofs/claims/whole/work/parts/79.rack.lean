theorem dMod_getSetting_0 : decode uMod_getSetting.2.1 0 = .ok (.iload_n 2, 1) := by decide +kernel
theorem dMod_getSetting_1 : decode uMod_getSetting.2.1 1 = .ok (.invokestatic 279, 3) := by decide +kernel
theorem dMod_getSetting_4 : decode uMod_getSetting.2.1 4 = .ok (.ifCond .eq 92, 3) := by decide +kernel
theorem dMod_getSetting_7 : decode uMod_getSetting.2.1 7 = .ok (.iload_n 3, 1) := by decide +kernel
theorem dMod_getSetting_8 : decode uMod_getSetting.2.1 8 = .ok (.ifCond .lt 11, 3) := by decide +kernel
theorem dMod_getSetting_11 : decode uMod_getSetting.2.1 11 = .ok (.iload_n 3, 1) := by decide +kernel
theorem dMod_getSetting_12 : decode uMod_getSetting.2.1 12 = .ok (.iload_n 2, 1) := by decide +kernel
theorem dMod_getSetting_13 : decode uMod_getSetting.2.1 13 = .ok (.invokestatic 282, 3) := by decide +kernel
theorem dMod_getSetting_16 : decode uMod_getSetting.2.1 16 = .ok (.if_icmp .le 19, 3) := by decide +kernel
theorem dMod_getSetting_19 : decode uMod_getSetting.2.1 19 = .ok (.aload_n 0, 1) := by decide +kernel
theorem dMod_getSetting_20 : decode uMod_getSetting.2.1 20 = .ok (.iload_n 1, 1) := by decide +kernel
theorem dMod_getSetting_21 : decode uMod_getSetting.2.1 21 = .ok (.iload_n 2, 1) := by decide +kernel
theorem dMod_getSetting_22 : decode uMod_getSetting.2.1 22 = .ok (.iconst 4, 1) := by decide +kernel
theorem dMod_getSetting_23 : decode uMod_getSetting.2.1 23 = .ok (.if_icmp .ne 7, 3) := by decide +kernel
theorem dMod_getSetting_26 : decode uMod_getSetting.2.1 26 = .ok (.iconst 3, 1) := by decide +kernel
theorem dMod_getSetting_27 : decode uMod_getSetting.2.1 27 = .ok (.goto 4, 3) := by decide +kernel
theorem dMod_getSetting_30 : decode uMod_getSetting.2.1 30 = .ok (.iconst 1, 1) := by decide +kernel
theorem dMod_getSetting_31 : decode uMod_getSetting.2.1 31 = .ok (.invokevirtual 249, 3) := by decide +kernel
theorem dMod_getSetting_34 : decode uMod_getSetting.2.1 34 = .ok (.ireturn, 1) := by decide +kernel
theorem dMod_getSetting_35 : decode uMod_getSetting.2.1 35 = .ok (.aload_n 0, 1) := by decide +kernel
theorem dMod_getSetting_36 : decode uMod_getSetting.2.1 36 = .ok (.getfield 120, 3) := by decide +kernel
theorem dMod_getSetting_39 : decode uMod_getSetting.2.1 39 = .ok (.iconst 3, 1) := by decide +kernel
theorem dMod_getSetting_40 : decode uMod_getSetting.2.1 40 = .ok (.iload_n 1, 1) := by decide +kernel
theorem dMod_getSetting_41 : decode uMod_getSetting.2.1 41 = .ok (.imul, 1) := by decide +kernel
theorem dMod_getSetting_42 : decode uMod_getSetting.2.1 42 = .ok (.iload_n 2, 1) := by decide +kernel
theorem dMod_getSetting_43 : decode uMod_getSetting.2.1 43 = .ok (.invokestatic 276, 3) := by decide +kernel
theorem dMod_getSetting_46 : decode uMod_getSetting.2.1 46 = .ok (.iadd, 1) := by decide +kernel
theorem dMod_getSetting_47 : decode uMod_getSetting.2.1 47 = .ok (.iload_n 3, 1) := by decide +kernel
theorem dMod_getSetting_48 : decode uMod_getSetting.2.1 48 = .ok (.iastore, 1) := by decide +kernel
theorem dMod_getSetting_49 : decode uMod_getSetting.2.1 49 = .ok (.iload_n 2, 1) := by decide +kernel
theorem dMod_getSetting_50 : decode uMod_getSetting.2.1 50 = .ok (.iconst 1, 1) := by decide +kernel
theorem dMod_getSetting_51 : decode uMod_getSetting.2.1 51 = .ok (.if_icmp .ne 45, 3) := by decide +kernel
theorem dMod_getSetting_54 : decode uMod_getSetting.2.1 54 = .ok (.aload_n 0, 1) := by decide +kernel
theorem dMod_getSetting_55 : decode uMod_getSetting.2.1 55 = .ok (.getfield 126, 3) := by decide +kernel
theorem dMod_getSetting_58 : decode uMod_getSetting.2.1 58 = .ok (.iload_n 1, 1) := by decide +kernel
theorem dMod_getSetting_59 : decode uMod_getSetting.2.1 59 = .ok (.aload_n 0, 1) := by decide +kernel
theorem dMod_getSetting_60 : decode uMod_getSetting.2.1 60 = .ok (.getfield 123, 3) := by decide +kernel
theorem dMod_getSetting_63 : decode uMod_getSetting.2.1 63 = .ok (.iload_n 1, 1) := by decide +kernel
theorem dMod_getSetting_64 : decode uMod_getSetting.2.1 64 = .ok (.baload, 1) := by decide +kernel
theorem dMod_getSetting_65 : decode uMod_getSetting.2.1 65 = .ok (.ifCond .eq 13, 3) := by decide +kernel
theorem dMod_getSetting_68 : decode uMod_getSetting.2.1 68 = .ok (.iload_n 3, 1) := by decide +kernel
theorem dMod_getSetting_69 : decode uMod_getSetting.2.1 69 = .ok (.aload_n 0, 1) := by decide +kernel
theorem dMod_getSetting_70 : decode uMod_getSetting.2.1 70 = .ok (.getfield 126, 3) := by decide +kernel
theorem dMod_getSetting_73 : decode uMod_getSetting.2.1 73 = .ok (.iload_n 1, 1) := by decide +kernel
theorem dMod_getSetting_74 : decode uMod_getSetting.2.1 74 = .ok (.iaload, 1) := by decide +kernel
theorem dMod_getSetting_75 : decode uMod_getSetting.2.1 75 = .ok (.if_icmp .ge 7, 3) := by decide +kernel
theorem dMod_getSetting_78 : decode uMod_getSetting.2.1 78 = .ok (.iload_n 3, 1) := by decide +kernel
theorem dMod_getSetting_79 : decode uMod_getSetting.2.1 79 = .ok (.goto 9, 3) := by decide +kernel
theorem dMod_getSetting_82 : decode uMod_getSetting.2.1 82 = .ok (.aload_n 0, 1) := by decide +kernel
theorem dMod_getSetting_83 : decode uMod_getSetting.2.1 83 = .ok (.getfield 126, 3) := by decide +kernel
theorem dMod_getSetting_86 : decode uMod_getSetting.2.1 86 = .ok (.iload_n 1, 1) := by decide +kernel
theorem dMod_getSetting_87 : decode uMod_getSetting.2.1 87 = .ok (.iaload, 1) := by decide +kernel
theorem dMod_getSetting_88 : decode uMod_getSetting.2.1 88 = .ok (.iastore, 1) := by decide +kernel
theorem dMod_getSetting_89 : decode uMod_getSetting.2.1 89 = .ok (.aload_n 0, 1) := by decide +kernel
theorem dMod_getSetting_90 : decode uMod_getSetting.2.1 90 = .ok (.getfield 123, 3) := by decide +kernel
theorem dMod_getSetting_93 : decode uMod_getSetting.2.1 93 = .ok (.iload_n 1, 1) := by decide +kernel
theorem dMod_getSetting_94 : decode uMod_getSetting.2.1 94 = .ok (.iconst 1, 1) := by decide +kernel
theorem dMod_getSetting_95 : decode uMod_getSetting.2.1 95 = .ok (.bastore, 1) := by decide +kernel
theorem dMod_getSetting_96 : decode uMod_getSetting.2.1 96 = .ok (.aload_n 0, 1) := by decide +kernel
theorem dMod_getSetting_97 : decode uMod_getSetting.2.1 97 = .ok (.iconst 1, 1) := by decide +kernel
theorem dMod_getSetting_98 : decode uMod_getSetting.2.1 98 = .ok (.iload_n 1, 1) := by decide +kernel
theorem dMod_getSetting_99 : decode uMod_getSetting.2.1 99 = .ok (.isub, 1) := by decide +kernel
theorem dMod_getSetting_100 : decode uMod_getSetting.2.1 100 = .ok (.iconst 4, 1) := by decide +kernel
theorem dMod_getSetting_101 : decode uMod_getSetting.2.1 101 = .ok (.iconst 0, 1) := by decide +kernel
theorem dMod_getSetting_102 : decode uMod_getSetting.2.1 102 = .ok (.iconst 0, 1) := by decide +kernel
theorem dMod_getSetting_103 : decode uMod_getSetting.2.1 103 = .ok (.iconst 1, 1) := by decide +kernel
theorem dMod_getSetting_104 : decode uMod_getSetting.2.1 104 = .ok (.invokevirtual 182, 3) := by decide +kernel
theorem dMod_getSetting_107 : decode uMod_getSetting.2.1 107 = .ok (.pop, 1) := by decide +kernel
theorem dMod_getSetting_108 : decode uMod_getSetting.2.1 108 = .ok (.iconst 0, 1) := by decide +kernel
theorem dMod_getSetting_109 : decode uMod_getSetting.2.1 109 = .ok (.ireturn, 1) := by decide +kernel
theorem dMod_getAck_0 : decode uMod_getAck.2.1 0 = .ok (.aload_n 0, 1) := by decide +kernel
theorem dMod_getAck_1 : decode uMod_getAck.2.1 1 = .ok (.getfield 132, 3) := by decide +kernel
theorem dMod_getAck_4 : decode uMod_getAck.2.1 4 = .ok (.iload_n 1, 1) := by decide +kernel
theorem dMod_getAck_5 : decode uMod_getAck.2.1 5 = .ok (.iaload, 1) := by decide +kernel
theorem dMod_getAck_6 : decode uMod_getAck.2.1 6 = .ok (.ifCond .ne 10, 3) := by decide +kernel
theorem dMod_getAck_9 : decode uMod_getAck.2.1 9 = .ok (.aload_n 0, 1) := by decide +kernel
theorem dMod_getAck_10 : decode uMod_getAck.2.1 10 = .ok (.iload_n 1, 1) := by decide +kernel
theorem dMod_getAck_11 : decode uMod_getAck.2.1 11 = .ok (.iconst 1, 1) := by decide +kernel
theorem dMod_getAck_12 : decode uMod_getAck.2.1 12 = .ok (.invokevirtual 249, 3) := by decide +kernel
theorem dMod_getAck_15 : decode uMod_getAck.2.1 15 = .ok (.ireturn, 1) := by decide +kernel
theorem dMod_getAck_16 : decode uMod_getAck.2.1 16 = .ok (.aload_n 0, 1) := by decide +kernel
theorem dMod_getAck_17 : decode uMod_getAck.2.1 17 = .ok (.getfield 135, 3) := by decide +kernel
theorem dMod_getAck_20 : decode uMod_getAck.2.1 20 = .ok (.bipush 8, 2) := by decide +kernel
theorem dMod_getAck_22 : decode uMod_getAck.2.1 22 = .ok (.iload_n 1, 1) := by decide +kernel
theorem dMod_getAck_23 : decode uMod_getAck.2.1 23 = .ok (.imul, 1) := by decide +kernel
theorem dMod_getAck_24 : decode uMod_getAck.2.1 24 = .ok (.iaload, 1) := by decide +kernel
theorem dMod_getAck_25 : decode uMod_getAck.2.1 25 = .ok (.istore_n 2, 1) := by decide +kernel
theorem dMod_getAck_26 : decode uMod_getAck.2.1 26 = .ok (.aload_n 0, 1) := by decide +kernel
theorem dMod_getAck_27 : decode uMod_getAck.2.1 27 = .ok (.getfield 138, 3) := by decide +kernel
theorem dMod_getAck_30 : decode uMod_getAck.2.1 30 = .ok (.bipush 8, 2) := by decide +kernel
theorem dMod_getAck_32 : decode uMod_getAck.2.1 32 = .ok (.iload_n 1, 1) := by decide +kernel
theorem dMod_getAck_33 : decode uMod_getAck.2.1 33 = .ok (.imul, 1) := by decide +kernel
theorem dMod_getAck_34 : decode uMod_getAck.2.1 34 = .ok (.iaload, 1) := by decide +kernel
theorem dMod_getAck_35 : decode uMod_getAck.2.1 35 = .ok (.istore_n 3, 1) := by decide +kernel
theorem dMod_getAck_36 : decode uMod_getAck.2.1 36 = .ok (.aload_n 0, 1) := by decide +kernel
theorem dMod_getAck_37 : decode uMod_getAck.2.1 37 = .ok (.getfield 132, 3) := by decide +kernel
theorem dMod_getAck_40 : decode uMod_getAck.2.1 40 = .ok (.iload_n 1, 1) := by decide +kernel
theorem dMod_getAck_41 : decode uMod_getAck.2.1 41 = .ok (.aload_n 0, 1) := by decide +kernel
theorem dMod_getAck_42 : decode uMod_getAck.2.1 42 = .ok (.getfield 132, 3) := by decide +kernel
theorem dMod_getAck_45 : decode uMod_getAck.2.1 45 = .ok (.iload_n 1, 1) := by decide +kernel
theorem dMod_getAck_46 : decode uMod_getAck.2.1 46 = .ok (.iaload, 1) := by decide +kernel
theorem dMod_getAck_47 : decode uMod_getAck.2.1 47 = .ok (.iconst 1, 1) := by decide +kernel
theorem dMod_getAck_48 : decode uMod_getAck.2.1 48 = .ok (.isub, 1) := by decide +kernel
theorem dMod_getAck_49 : decode uMod_getAck.2.1 49 = .ok (.iastore, 1) := by decide +kernel
theorem dMod_getAck_50 : decode uMod_getAck.2.1 50 = .ok (.iconst 0, 1) := by decide +kernel
theorem dMod_getAck_51 : decode uMod_getAck.2.1 51 = .ok (.istore 4, 2) := by decide +kernel
theorem dMod_getAck_53 : decode uMod_getAck.2.1 53 = .ok (.iload 4, 2) := by decide +kernel
theorem dMod_getAck_55 : decode uMod_getAck.2.1 55 = .ok (.aload_n 0, 1) := by decide +kernel
theorem dMod_getAck_56 : decode uMod_getAck.2.1 56 = .ok (.getfield 132, 3) := by decide +kernel
theorem dMod_getAck_59 : decode uMod_getAck.2.1 59 = .ok (.iload_n 1, 1) := by decide +kernel
theorem dMod_getAck_60 : decode uMod_getAck.2.1 60 = .ok (.iaload, 1) := by decide +kernel
theorem dMod_getAck_61 : decode uMod_getAck.2.1 61 = .ok (.if_icmp .ge 61, 3) := by decide +kernel
theorem dMod_getAck_64 : decode uMod_getAck.2.1 64 = .ok (.aload_n 0, 1) := by decide +kernel
theorem dMod_getAck_65 : decode uMod_getAck.2.1 65 = .ok (.getfield 135, 3) := by decide +kernel
theorem dMod_getAck_68 : decode uMod_getAck.2.1 68 = .ok (.bipush 8, 2) := by decide +kernel
theorem dMod_getAck_70 : decode uMod_getAck.2.1 70 = .ok (.iload_n 1, 1) := by decide +kernel
theorem dMod_getAck_71 : decode uMod_getAck.2.1 71 = .ok (.imul, 1) := by decide +kernel
theorem dMod_getAck_72 : decode uMod_getAck.2.1 72 = .ok (.iload 4, 2) := by decide +kernel
theorem dMod_getAck_74 : decode uMod_getAck.2.1 74 = .ok (.iadd, 1) := by decide +kernel
theorem dMod_getAck_75 : decode uMod_getAck.2.1 75 = .ok (.aload_n 0, 1) := by decide +kernel
theorem dMod_getAck_76 : decode uMod_getAck.2.1 76 = .ok (.getfield 135, 3) := by decide +kernel
theorem dMod_getAck_79 : decode uMod_getAck.2.1 79 = .ok (.bipush 8, 2) := by decide +kernel
theorem dMod_getAck_81 : decode uMod_getAck.2.1 81 = .ok (.iload_n 1, 1) := by decide +kernel
theorem dMod_getAck_82 : decode uMod_getAck.2.1 82 = .ok (.imul, 1) := by decide +kernel
theorem dMod_getAck_83 : decode uMod_getAck.2.1 83 = .ok (.iload 4, 2) := by decide +kernel
theorem dMod_getAck_85 : decode uMod_getAck.2.1 85 = .ok (.iadd, 1) := by decide +kernel
theorem dMod_getAck_86 : decode uMod_getAck.2.1 86 = .ok (.iconst 1, 1) := by decide +kernel
theorem dMod_getAck_87 : decode uMod_getAck.2.1 87 = .ok (.iadd, 1) := by decide +kernel
theorem dMod_getAck_88 : decode uMod_getAck.2.1 88 = .ok (.iaload, 1) := by decide +kernel
theorem dMod_getAck_89 : decode uMod_getAck.2.1 89 = .ok (.iastore, 1) := by decide +kernel
theorem dMod_getAck_90 : decode uMod_getAck.2.1 90 = .ok (.aload_n 0, 1) := by decide +kernel
theorem dMod_getAck_91 : decode uMod_getAck.2.1 91 = .ok (.getfield 138, 3) := by decide +kernel
theorem dMod_getAck_94 : decode uMod_getAck.2.1 94 = .ok (.bipush 8, 2) := by decide +kernel
theorem dMod_getAck_96 : decode uMod_getAck.2.1 96 = .ok (.iload_n 1, 1) := by decide +kernel
theorem dMod_getAck_97 : decode uMod_getAck.2.1 97 = .ok (.imul, 1) := by decide +kernel
theorem dMod_getAck_98 : decode uMod_getAck.2.1 98 = .ok (.iload 4, 2) := by decide +kernel
theorem dMod_getAck_100 : decode uMod_getAck.2.1 100 = .ok (.iadd, 1) := by decide +kernel
theorem dMod_getAck_101 : decode uMod_getAck.2.1 101 = .ok (.aload_n 0, 1) := by decide +kernel
theorem dMod_getAck_102 : decode uMod_getAck.2.1 102 = .ok (.getfield 138, 3) := by decide +kernel
theorem dMod_getAck_105 : decode uMod_getAck.2.1 105 = .ok (.bipush 8, 2) := by decide +kernel
theorem dMod_getAck_107 : decode uMod_getAck.2.1 107 = .ok (.iload_n 1, 1) := by decide +kernel
theorem dMod_getAck_108 : decode uMod_getAck.2.1 108 = .ok (.imul, 1) := by decide +kernel
theorem dMod_getAck_109 : decode uMod_getAck.2.1 109 = .ok (.iload 4, 2) := by decide +kernel
theorem dMod_getAck_111 : decode uMod_getAck.2.1 111 = .ok (.iadd, 1) := by decide +kernel
theorem dMod_getAck_112 : decode uMod_getAck.2.1 112 = .ok (.iconst 1, 1) := by decide +kernel
theorem dMod_getAck_113 : decode uMod_getAck.2.1 113 = .ok (.iadd, 1) := by decide +kernel
theorem dMod_getAck_114 : decode uMod_getAck.2.1 114 = .ok (.iaload, 1) := by decide +kernel
theorem dMod_getAck_115 : decode uMod_getAck.2.1 115 = .ok (.iastore, 1) := by decide +kernel
theorem dMod_getAck_116 : decode uMod_getAck.2.1 116 = .ok (.iinc 4 1, 3) := by decide +kernel
theorem dMod_getAck_119 : decode uMod_getAck.2.1 119 = .ok (.goto (-66), 3) := by decide +kernel
theorem dMod_getAck_122 : decode uMod_getAck.2.1 122 = .ok (.aload_n 0, 1) := by decide +kernel
theorem dMod_getAck_123 : decode uMod_getAck.2.1 123 = .ok (.getfield 129, 3) := by decide +kernel
theorem dMod_getAck_126 : decode uMod_getAck.2.1 126 = .ok (.iload_n 1, 1) := by decide +kernel
theorem dMod_getAck_127 : decode uMod_getAck.2.1 127 = .ok (.aload_n 0, 1) := by decide +kernel
theorem dMod_getAck_128 : decode uMod_getAck.2.1 128 = .ok (.getfield 129, 3) := by decide +kernel
theorem dMod_getAck_131 : decode uMod_getAck.2.1 131 = .ok (.iload_n 1, 1) := by decide +kernel
theorem dMod_getAck_132 : decode uMod_getAck.2.1 132 = .ok (.baload, 1) := by decide +kernel
theorem dMod_getAck_133 : decode uMod_getAck.2.1 133 = .ok (.ifCond .ne 22, 3) := by decide +kernel
theorem dMod_getAck_136 : decode uMod_getAck.2.1 136 = .ok (.iload_n 2, 1) := by decide +kernel
theorem dMod_getAck_137 : decode uMod_getAck.2.1 137 = .ok (.iconst 1, 1) := by decide +kernel
theorem dMod_getAck_138 : decode uMod_getAck.2.1 138 = .ok (.if_icmp .ne 21, 3) := by decide +kernel
theorem dMod_getAck_141 : decode uMod_getAck.2.1 141 = .ok (.iload_n 3, 1) := by decide +kernel
theorem dMod_getAck_142 : decode uMod_getAck.2.1 142 = .ok (.aload_n 0, 1) := by decide +kernel
theorem dMod_getAck_143 : decode uMod_getAck.2.1 143 = .ok (.getfield 141, 3) := by decide +kernel
theorem dMod_getAck_146 : decode uMod_getAck.2.1 146 = .ok (.iconst 2, 1) := by decide +kernel
theorem dMod_getAck_147 : decode uMod_getAck.2.1 147 = .ok (.iload_n 1, 1) := by decide +kernel
theorem dMod_getAck_148 : decode uMod_getAck.2.1 148 = .ok (.imul, 1) := by decide +kernel
theorem dMod_getAck_149 : decode uMod_getAck.2.1 149 = .ok (.iconst 1, 1) := by decide +kernel
theorem dMod_getAck_150 : decode uMod_getAck.2.1 150 = .ok (.iadd, 1) := by decide +kernel
theorem dMod_getAck_151 : decode uMod_getAck.2.1 151 = .ok (.iaload, 1) := by decide +kernel
theorem dMod_getAck_152 : decode uMod_getAck.2.1 152 = .ok (.if_icmp .ge 7, 3) := by decide +kernel
theorem dMod_getAck_155 : decode uMod_getAck.2.1 155 = .ok (.iconst 1, 1) := by decide +kernel
theorem dMod_getAck_156 : decode uMod_getAck.2.1 156 = .ok (.goto 4, 3) := by decide +kernel
theorem dMod_getAck_159 : decode uMod_getAck.2.1 159 = .ok (.iconst 0, 1) := by decide +kernel
theorem dMod_getAck_160 : decode uMod_getAck.2.1 160 = .ok (.bastore, 1) := by decide +kernel
theorem dMod_getAck_161 : decode uMod_getAck.2.1 161 = .ok (.aload_n 0, 1) := by decide +kernel
theorem dMod_getAck_162 : decode uMod_getAck.2.1 162 = .ok (.getfield 117, 3) := by decide +kernel
theorem dMod_getAck_165 : decode uMod_getAck.2.1 165 = .ok (.iconst 3, 1) := by decide +kernel
theorem dMod_getAck_166 : decode uMod_getAck.2.1 166 = .ok (.iload_n 1, 1) := by decide +kernel
theorem dMod_getAck_167 : decode uMod_getAck.2.1 167 = .ok (.imul, 1) := by decide +kernel
theorem dMod_getAck_168 : decode uMod_getAck.2.1 168 = .ok (.iload_n 2, 1) := by decide +kernel
theorem dMod_getAck_169 : decode uMod_getAck.2.1 169 = .ok (.invokestatic 276, 3) := by decide +kernel
theorem dMod_getAck_172 : decode uMod_getAck.2.1 172 = .ok (.iadd, 1) := by decide +kernel
theorem dMod_getAck_173 : decode uMod_getAck.2.1 173 = .ok (.iload_n 3, 1) := by decide +kernel
theorem dMod_getAck_174 : decode uMod_getAck.2.1 174 = .ok (.iastore, 1) := by decide +kernel
theorem dMod_getAck_175 : decode uMod_getAck.2.1 175 = .ok (.iconst 0, 1) := by decide +kernel
theorem dMod_getAck_176 : decode uMod_getAck.2.1 176 = .ok (.ireturn, 1) := by decide +kernel
theorem cs_Mod_276 : cSt "InterleavedLinkModel" 276 uMod_place 1 := ⟨⟨Or.inl (gW_in 1149 (by decide +kernel) rfl), (gW_in 74 (by decide +kernel) rfl), (gW_in 1151 (by decide +kernel) rfl), ⟨by decide, by decide⟩, by decide +kernel⟩, (gW_in 1150 (by decide +kernel) rfl)⟩
theorem fs_Mod_126 : fS "InterleavedLinkModel" 126 10 39 := ⟨"InterleavedLinkModel", T_Mod, 56, cf_Mod, by decide, Or.inl (gW_in 900 (by decide +kernel) rfl)⟩
theorem fs_Mod_123 : fS "InterleavedLinkModel" 123 10 38 := ⟨"InterleavedLinkModel", T_Mod, 56, cf_Mod, by decide, Or.inl (gW_in 899 (by decide +kernel) rfl)⟩
theorem fs_Mod_129 : fS "InterleavedLinkModel" 129 10 40 := ⟨"InterleavedLinkModel", T_Mod, 56, cf_Mod, by decide, Or.inl (gW_in 901 (by decide +kernel) rfl)⟩
/-! ===== the reference over the state: settings heard and in force ===== -/
theorem rg_out {s v m : Int32} (hr : rgC s v = wi v 0 m) (h : v < 0 ∨ ¬ v ≤ m) : rgC s v = 0 := by
  rw [hr]
  unfold wi
  rcases h with q | q
  · rw [if_pos q]
  · by_cases q2 : v < 0
    · rw [if_pos q2]
    · rw [if_neg q2, if_pos (Int32.not_le.mp q)]
theorem rg_in {s v m : Int32} (hr : rgC s v = wi v 0 m) (h1 : ¬ v < 0) (h2 : v ≤ m) : ¬ rgC s v = 0 := by
  rw [hr]
  unfold wi
  rw [if_neg h1, if_neg (Int32.not_lt.mpr h2)]
  decide
theorem rg_1 (v : Int32) : rgC 1 v = wi v 0 200 := rfl
theorem rg_3 (v : Int32) : rgC 3 v = wi v 0 12 := rfl
theorem rg_4 (v : Int32) : rgC 4 v = wi v 0 64 := rfl
theorem RR.hl {M : mM} {A : zA} {e : Nat} {v y : Int32} (h : RR M A) (he : e < 2) (hy : y = if RtoldSince M e = 0 then v else if v < RleastTold M e then v else RleastTold M e) : RR (setI (setI (setI M 206 (3 * e + 0) v) 208 e y) 207 e 1) (hlA A e v) := by
  obtain ⟨⟨a1, a2, a3⟩, ⟨b1, b2⟩, c1, d1, e1⟩ := h.se he
  have hy2 : y = if zI A (14 + 80 * e) 1 = 0 then v else if v < zI A (14 + 80 * e) 2 then v else zI A (14 + 80 * e) 2 := by
    rw [hy, c1]
    by_cases q : zI A (14 + 80 * e) 1 = 0
    · rw [if_pos q, if_pos q]
    · rw [if_neg q, if_neg q, (d1 q).2]
  have u : ∀ a j, ¬ (a = 206 ∧ j = 3 * e + 0) → a ≠ 208 → a ≠ 207 → mI (setI (setI (setI M 206 (3 * e + 0) v) 208 e y) 207 e 1) a j = mI M a j := fun a j q q2 q3 => (up2_a q3).trans ((up2_a q2).trans (up2_ne q))
  have w : ∀ a j, a ≠ 14 + 80 * e → zI (hlA A e v) a j = zI A a j := fun a j q => (up2_a q).trans ((up2_a q).trans (up2_a q))
  refine h.yN (f := zI (hlA A e v)) he (fun a j _ _ p _ => w a j p) (((Chg.rf.setI (Or.inl (Or.inl ⟨Or.inr rfl, by omega, by omega⟩))).setI (Or.inl (Or.inr ⟨by omega, by omega, rfl⟩))).setI (Or.inl (Or.inr ⟨by omega, by omega, rfl⟩))) ?_ (u _ _ (by omega) (by omega) (by omega)) (u _ _ (by omega) (by omega) (by omega))
  refine ⟨⟨(u _ _ (by omega) (by omega) (by omega)).trans (a1.trans (w _ _ (by omega)).symm), (u _ _ (by omega) (by omega) (by omega)).trans (a2.trans (w _ _ (by omega)).symm), (u _ _ (by omega) (by omega) (by omega)).trans (a3.trans (w _ _ (by omega)).symm)⟩, ⟨(u _ _ (by omega) (by omega) (by omega)).trans (b1.trans (w _ _ (by omega)).symm), (u _ _ (by omega) (by omega) (by omega)).trans (b2.trans (w _ _ (by omega)).symm)⟩, ?_, fun _ => ⟨?_, ?_⟩, (u _ _ (by omega) (by omega) (by omega)).trans (e1.trans (w _ _ (by omega)).symm)⟩
  · show up2 _ 207 e 1 207 e = up2 _ _ 1 1 _ 1
    rw [up2_same, up2_same]
  · show up2 (up2 (up2 (mI M) 206 (3 * e + 0) v) 208 e y) 207 e 1 206 (3 * e + 0) = up2 (up2 (up2 _ _ 2 _) _ 3 v) _ 1 1 _ 3
    rw [up2_a (by decide), up2_a (by decide), up2_same, up2_k (by decide), up2_same]
  · show up2 (up2 (up2 (mI M) 206 (3 * e + 0) v) 208 e y) 207 e 1 208 e = up2 (up2 (up2 _ _ 2 _) _ 3 v) _ 1 1 _ 2
    rw [up2_a (by decide), up2_same, up2_k (by decide), up2_k (by decide), up2_same]
    exact hy2
theorem kn_3 {s : Int32} (h : knC s = 0) : ¬ s = 1 ∧ ¬ s = 3 ∧ ¬ s = 4 := by
  refine ⟨fun q => ?_, fun q => ?_, fun q => ?_⟩ <;> subst q <;> exact absurd h (by decide)
theorem rg_un {s v : Int32} (h : knC s = 0) : rgC s v = 1 := by
  obtain ⟨h1, h3, h4⟩ := kn_3 h
  unfold rgC
  rw [if_neg h1, if_neg h3, if_neg h4]
theorem hr_un {A : zA} {e : Nat} {s v : Int32} (h : knC s = 0) : hrS A e s v = A := by
  obtain ⟨h1, h3, h4⟩ := kn_3 h
  unfold hrS
  rw [if_neg h1, if_neg h3, if_neg h4]
set_option maxRecDepth 100000 in
set_option maxHeartbeats 4000000 in
theorem ct_gStM_un {X : mX} {l : Launch} {M : mM} {A : zA} {e : Nat} (hR : RR M A) (he : e < 2) {s v : Int32} (hk : knC s = 0) (hp : (zP A (1 - e)).length ≤ 44) : Ct X l uMod_getSetting (rk 2 48) [.ref 169, .int (nI e), .int s, .int v] M (fun r M' => r = some (.int (gSt A e s v).1) ∧ RR M' (gSt A e s v).2 ∧ Chg M M' mP no2) := by
  refine Ct.of (by decide) (Nat.le_of_ble_eq_true rfl) ?_
  show G X l uMod_getSetting (rk 2 48) 0 0 M 0 [some (.ref 169), some (.int (nI e)), some (.int s), some (.int v)] [] _
  have hC : Chg M M mP no2 := Chg.rf
  refine g_iload_n 0 dMod_getSetting_0 rfl ?_
  refine g_callS 1 [_] dMod_getSetting_1 cs_Mod_279 rfl rfl ⟨(Nat.le_of_ble_eq_true rfl), (Nat.le_of_ble_eq_true rfl)⟩ (Nat.le_of_ble_eq_true rfl) (cm_known) (Nat.le_of_ble_eq_true rfl) (Nat.le_of_ble_eq_true rfl) ?_
  rintro _ M2 ⟨rfl, hM2⟩
  rw [hM2]
  clear hM2 M2
  refine g_top 0 ((kn_eq s).trans hk) ?_
  refine g_if_eq 4 96 dMod_getSetting_4 rfl (fun h4 => ?_) (fun h4 => ?_)
  · refine g_aload_n 96 dMod_getSetting_96 rfl ?_
    refine g_iconst 97 (nI 1) dMod_getSetting_97 rfl ?_
    refine g_iload_n 98 dMod_getSetting_98 rfl ?_
    refine g_isubN 99 dMod_getSetting_99 (by omega) ?_
    refine g_iconst 100 4 dMod_getSetting_100 rfl ?_
    refine g_iconst 101 0 dMod_getSetting_101 rfl ?_
    refine g_iconst 102 0 dMod_getSetting_102 rfl ?_
    refine g_iconst 103 1 dMod_getSetting_103 rfl ?_
    refine g_callV 104 [_, _, _, _, _] dMod_getSetting_104 cs_Mod_182 rfl (ci := 10) rfl (by decide) hR.1.mod rfl ⟨(Nat.le_of_ble_eq_true rfl), (Nat.le_of_ble_eq_true rfl)⟩ (Nat.le_of_ble_eq_true rfl) (ct_pushR hR (by omega) (show (zP A (1 - e)).length < 47 by omega) (Or.inr rfl) [] (fun q => absurd q (by decide)) (fun q => absurd q (by decide))) (Nat.le_of_ble_eq_true rfl) (Nat.le_of_ble_eq_true rfl) ?_
    rintro _ M1 ⟨sl, hsl, rfl, hla, hR1, hc⟩
    have hC1 := hC.tr hc
    refine g_pop 107 dMod_getSetting_107 rfl ?_
    refine g_iconst 108 0 dMod_getSetting_108 rfl ?_
    exact g_iret 109 dMod_getSetting_109 rfl (by unfold gSt; rw [if_neg (by rw [rg_un hk]; decide), hr_un hk]; exact ⟨rfl, hR1, hC1⟩)
  · exact absurd rfl h4

set_option maxRecDepth 100000 in
set_option maxHeartbeats 4000000 in
theorem ct_gStM_1 {X : mX} {l : Launch} {M : mM} {A : zA} {e : Nat} (hR : RR M A) (he : e < 2) {v : Int32} (hp : (zP A (1 - e)).length ≤ 44) : Ct X l uMod_getSetting (rk 2 48) [.ref 169, .int (nI e), .int 1, .int v] M (fun r M' => r = some (.int (gSt A e 1 v).1) ∧ RR M' (gSt A e 1 v).2 ∧ Chg M M' mP no2) := by
  refine Ct.of (by decide) (Nat.le_of_ble_eq_true rfl) ?_
  show G X l uMod_getSetting (rk 2 48) 0 0 M 0 [some (.ref 169), some (.int (nI e)), some (.int 1), some (.int v)] [] _
  have hC : Chg M M mP no2 := Chg.rf
  refine g_iload_n 0 dMod_getSetting_0 rfl ?_
  refine g_callS 1 [_] dMod_getSetting_1 cs_Mod_279 rfl rfl ⟨(Nat.le_of_ble_eq_true rfl), (Nat.le_of_ble_eq_true rfl)⟩ (Nat.le_of_ble_eq_true rfl) (cm_known) (Nat.le_of_ble_eq_true rfl) (Nat.le_of_ble_eq_true rfl) ?_
  rintro _ M2 ⟨rfl, hM2⟩
  rw [hM2]
  clear hM2 M2
  refine g_top 1 (by decide) ?_
  refine g_if_eq 4 96 dMod_getSetting_4 rfl (fun h4 => ?_) (fun h4 => ?_)
  · exact absurd h4 (by decide)
  · refine g_iload_n 7 dMod_getSetting_7 rfl ?_
    refine g_if_lt 8 19 dMod_getSetting_8 rfl (fun h8 => ?_) (fun h8 => ?_)
    · refine g_aload_n 19 dMod_getSetting_19 rfl ?_
      refine g_iload_n 20 dMod_getSetting_20 rfl ?_
      refine g_iload_n 21 dMod_getSetting_21 rfl ?_
      refine g_iconst 22 4 dMod_getSetting_22 rfl ?_
      refine g_icmp_ne 23 30 dMod_getSetting_23 rfl (fun h23 => ?_) (fun h23 => ?_)
      · refine g_iconst 30 1 dMod_getSetting_30 rfl ?_
        refine g_callV 31 [_, _] dMod_getSetting_31 cs_Mod_249 rfl (ci := 10) rfl (by decide) hR.1.mod rfl ⟨(Nat.le_of_ble_eq_true rfl), (Nat.le_of_ble_eq_true rfl)⟩ (Nat.le_of_ble_eq_true rfl) (ct_lerrM hR he (show (zP A (1 - e)).length < 47 by omega)) (Nat.le_of_ble_eq_true rfl) (Nat.le_of_ble_eq_true rfl) ?_
        rintro _ M1 ⟨rfl, hR1, hc⟩
        have hC1 := hC.tr hc
        exact g_iret 34 dMod_getSetting_34 rfl (by unfold gSt; rw [if_pos (rg_out (rg_1 v) (by first | exact Or.inl h8 | exact Or.inr h16))]; exact ⟨rfl, hR1, hC1⟩)
      · exact absurd h23 (by decide)
    · refine g_iload_n 11 dMod_getSetting_11 rfl ?_
      refine g_iload_n 12 dMod_getSetting_12 rfl ?_
      refine g_callS 13 [_] dMod_getSetting_13 cs_Mod_282 rfl rfl ⟨(Nat.le_of_ble_eq_true rfl), (Nat.le_of_ble_eq_true rfl)⟩ (Nat.le_of_ble_eq_true rfl) (cm_highest) (Nat.le_of_ble_eq_true rfl) (Nat.le_of_ble_eq_true rfl) ?_
      rintro _ M2 ⟨rfl, hM2⟩
      rw [hM2]
      clear hM2 M2
      refine g_top 200 (by decide) ?_
      refine g_icmp_le 16 35 dMod_getSetting_16 rfl (fun h16 => ?_) (fun h16 => ?_)
      · refine g_aload_n 35 dMod_getSetting_35 rfl ?_
        refine g_getr 36 10 37 dMod_getSetting_36 fs_Mod_120 rfl hR.1.mod hR.1.R_told ?_
        refine g_iconst 39 (nI 3) dMod_getSetting_39 rfl ?_
        refine g_iload_n 40 dMod_getSetting_40 rfl ?_
        refine g_imulN 41 dMod_getSetting_41 ?_
        refine g_iload_n 42 dMod_getSetting_42 rfl ?_
        refine g_callS 43 [_] dMod_getSetting_43 cs_Mod_276 rfl rfl ⟨(Nat.le_of_ble_eq_true rfl), (Nat.le_of_ble_eq_true rfl)⟩ (Nat.le_of_ble_eq_true rfl) (cm_place) (Nat.le_of_ble_eq_true rfl) (Nat.le_of_ble_eq_true rfl) ?_
        rintro _ M2 ⟨rfl, hM2⟩
        rw [hM2]
        clear hM2 M2
        refine g_top (nI 0) (by decide) ?_
        refine g_iaddN 46 dMod_getSetting_46 ?_
        refine g_iload_n 47 dMod_getSetting_47 rfl ?_
        refine g_iastN 48 dMod_getSetting_48 hR.1.T_told (by omega) (by decide) ?_
        refine g_iload_n 49 dMod_getSetting_49 rfl ?_
        refine g_iconst 50 1 dMod_getSetting_50 rfl ?_
        refine g_icmp_ne 51 96 dMod_getSetting_51 rfl (fun h51 => ?_) (fun h51 => ?_)
        · exact absurd (by decide) h51
        · refine g_aload_n 54 dMod_getSetting_54 rfl ?_
          refine g_getr 55 10 39 dMod_getSetting_55 fs_Mod_126 rfl hR.1.mod hR.1.R_leastTold ?_
          refine g_iload_n 58 dMod_getSetting_58 rfl ?_
          refine g_aload_n 59 dMod_getSetting_59 rfl ?_
          refine g_getr 60 10 38 dMod_getSetting_60 fs_Mod_123 rfl hR.1.mod hR.1.R_toldSince ?_
          refine g_iload_n 63 dMod_getSetting_63 rfl ?_
          refine g_zaldN 64 dMod_getSetting_64 hR.1.T_toldSince (by omega) (by decide) ?_
          refine g_top (RtoldSince M e) (sI_a (by decide)) ?_
          refine g_if_eq 65 78 dMod_getSetting_65 rfl (fun h65 => ?_) (fun h65 => ?_)
          · refine g_iload_n 78 dMod_getSetting_78 rfl ?_
            refine g_goto 79 88 dMod_getSetting_79 rfl ?_
            refine g_iastN 88 dMod_getSetting_88 hR.1.T_leastTold (by omega) (by decide) ?_
            refine g_aload_n 89 dMod_getSetting_89 rfl ?_
            refine g_getr 90 10 38 dMod_getSetting_90 fs_Mod_123 rfl hR.1.mod hR.1.R_toldSince ?_
            refine g_iload_n 93 dMod_getSetting_93 rfl ?_
            refine g_iconst 94 1 dMod_getSetting_94 rfl ?_
            refine g_zastN 95 dMod_getSetting_95 hR.1.T_toldSince (by omega) (by decide) (by decide) ?_
            refine g_memM (A := hrS A e 1 v) (hR.hl he (by first | rw [if_pos h65] | rw [if_neg h65, if_pos (Int32.not_le.mp h75)] | rw [if_neg h65, if_neg (Int32.not_lt.mpr h75)])) (kM (kM (kM hC (by decide)) (by decide)) (by decide)) (fun M1 hR1 hC1 => ?_)
            refine g_aload_n 96 dMod_getSetting_96 rfl ?_
            refine g_iconst 97 (nI 1) dMod_getSetting_97 rfl ?_
            refine g_iload_n 98 dMod_getSetting_98 rfl ?_
            refine g_isubN 99 dMod_getSetting_99 (by omega) ?_
            refine g_iconst 100 4 dMod_getSetting_100 rfl ?_
            refine g_iconst 101 0 dMod_getSetting_101 rfl ?_
            refine g_iconst 102 0 dMod_getSetting_102 rfl ?_
            refine g_iconst 103 1 dMod_getSetting_103 rfl ?_
            refine g_callV 104 [_, _, _, _, _] dMod_getSetting_104 cs_Mod_182 rfl (ci := 10) rfl (by decide) hR1.1.mod rfl ⟨(Nat.le_of_ble_eq_true rfl), (Nat.le_of_ble_eq_true rfl)⟩ (Nat.le_of_ble_eq_true rfl) (ct_pushR hR1 (by omega) (show (zP (hrS A e 1 v) (1 - e)).length < 47 by rw [hrS_P]; omega) (Or.inr rfl) [] (fun q => absurd q (by decide)) (fun q => absurd q (by decide))) (Nat.le_of_ble_eq_true rfl) (Nat.le_of_ble_eq_true rfl) ?_
            rintro _ M2 ⟨sl, hsl, rfl, hla, hR2, hc⟩
            have hC2 := hC1.tr hc
            refine g_pop 107 dMod_getSetting_107 rfl ?_
            refine g_iconst 108 0 dMod_getSetting_108 rfl ?_
            exact g_iret 109 dMod_getSetting_109 rfl (by unfold gSt; rw [if_neg (rg_in (rg_1 v) h8 h16)]; exact ⟨rfl, hR2, hC2⟩)
          · refine g_iload_n 68 dMod_getSetting_68 rfl ?_
            refine g_aload_n 69 dMod_getSetting_69 rfl ?_
            refine g_getr 70 10 39 dMod_getSetting_70 fs_Mod_126 rfl hR.1.mod hR.1.R_leastTold ?_
            refine g_iload_n 73 dMod_getSetting_73 rfl ?_
            refine g_ialdN 74 dMod_getSetting_74 hR.1.T_leastTold (by omega) (by decide) ?_
            refine g_top (RleastTold M e) (sI_a (by decide)) ?_
            refine g_icmp_ge 75 82 dMod_getSetting_75 rfl (fun h75 => ?_) (fun h75 => ?_)
            · refine g_aload_n 82 dMod_getSetting_82 rfl ?_
              refine g_getr 83 10 39 dMod_getSetting_83 fs_Mod_126 rfl hR.1.mod hR.1.R_leastTold ?_
              refine g_iload_n 86 dMod_getSetting_86 rfl ?_
              refine g_ialdN 87 dMod_getSetting_87 hR.1.T_leastTold (by omega) (by decide) ?_
              refine g_top (RleastTold M e) (sI_a (by decide)) ?_
              refine g_iastN 88 dMod_getSetting_88 hR.1.T_leastTold (by omega) (by decide) ?_
              refine g_aload_n 89 dMod_getSetting_89 rfl ?_
              refine g_getr 90 10 38 dMod_getSetting_90 fs_Mod_123 rfl hR.1.mod hR.1.R_toldSince ?_
              refine g_iload_n 93 dMod_getSetting_93 rfl ?_
              refine g_iconst 94 1 dMod_getSetting_94 rfl ?_
              refine g_zastN 95 dMod_getSetting_95 hR.1.T_toldSince (by omega) (by decide) (by decide) ?_
              refine g_memM (A := hrS A e 1 v) (hR.hl he (by first | rw [if_pos h65] | rw [if_neg h65, if_pos (Int32.not_le.mp h75)] | rw [if_neg h65, if_neg (Int32.not_lt.mpr h75)])) (kM (kM (kM hC (by decide)) (by decide)) (by decide)) (fun M1 hR1 hC1 => ?_)
              refine g_aload_n 96 dMod_getSetting_96 rfl ?_
              refine g_iconst 97 (nI 1) dMod_getSetting_97 rfl ?_
              refine g_iload_n 98 dMod_getSetting_98 rfl ?_
              refine g_isubN 99 dMod_getSetting_99 (by omega) ?_
              refine g_iconst 100 4 dMod_getSetting_100 rfl ?_
              refine g_iconst 101 0 dMod_getSetting_101 rfl ?_
              refine g_iconst 102 0 dMod_getSetting_102 rfl ?_
              refine g_iconst 103 1 dMod_getSetting_103 rfl ?_
              refine g_callV 104 [_, _, _, _, _] dMod_getSetting_104 cs_Mod_182 rfl (ci := 10) rfl (by decide) hR1.1.mod rfl ⟨(Nat.le_of_ble_eq_true rfl), (Nat.le_of_ble_eq_true rfl)⟩ (Nat.le_of_ble_eq_true rfl) (ct_pushR hR1 (by omega) (show (zP (hrS A e 1 v) (1 - e)).length < 47 by rw [hrS_P]; omega) (Or.inr rfl) [] (fun q => absurd q (by decide)) (fun q => absurd q (by decide))) (Nat.le_of_ble_eq_true rfl) (Nat.le_of_ble_eq_true rfl) ?_
              rintro _ M2 ⟨sl, hsl, rfl, hla, hR2, hc⟩
              have hC2 := hC1.tr hc
              refine g_pop 107 dMod_getSetting_107 rfl ?_
              refine g_iconst 108 0 dMod_getSetting_108 rfl ?_
              exact g_iret 109 dMod_getSetting_109 rfl (by unfold gSt; rw [if_neg (rg_in (rg_1 v) h8 h16)]; exact ⟨rfl, hR2, hC2⟩)
            · refine g_iload_n 78 dMod_getSetting_78 rfl ?_
              refine g_goto 79 88 dMod_getSetting_79 rfl ?_
              refine g_iastN 88 dMod_getSetting_88 hR.1.T_leastTold (by omega) (by decide) ?_
              refine g_aload_n 89 dMod_getSetting_89 rfl ?_
              refine g_getr 90 10 38 dMod_getSetting_90 fs_Mod_123 rfl hR.1.mod hR.1.R_toldSince ?_
              refine g_iload_n 93 dMod_getSetting_93 rfl ?_
              refine g_iconst 94 1 dMod_getSetting_94 rfl ?_
              refine g_zastN 95 dMod_getSetting_95 hR.1.T_toldSince (by omega) (by decide) (by decide) ?_
              refine g_memM (A := hrS A e 1 v) (hR.hl he (by first | rw [if_pos h65] | rw [if_neg h65, if_pos (Int32.not_le.mp h75)] | rw [if_neg h65, if_neg (Int32.not_lt.mpr h75)])) (kM (kM (kM hC (by decide)) (by decide)) (by decide)) (fun M1 hR1 hC1 => ?_)
              refine g_aload_n 96 dMod_getSetting_96 rfl ?_
              refine g_iconst 97 (nI 1) dMod_getSetting_97 rfl ?_
              refine g_iload_n 98 dMod_getSetting_98 rfl ?_
              refine g_isubN 99 dMod_getSetting_99 (by omega) ?_
              refine g_iconst 100 4 dMod_getSetting_100 rfl ?_
              refine g_iconst 101 0 dMod_getSetting_101 rfl ?_
              refine g_iconst 102 0 dMod_getSetting_102 rfl ?_
              refine g_iconst 103 1 dMod_getSetting_103 rfl ?_
              refine g_callV 104 [_, _, _, _, _] dMod_getSetting_104 cs_Mod_182 rfl (ci := 10) rfl (by decide) hR1.1.mod rfl ⟨(Nat.le_of_ble_eq_true rfl), (Nat.le_of_ble_eq_true rfl)⟩ (Nat.le_of_ble_eq_true rfl) (ct_pushR hR1 (by omega) (show (zP (hrS A e 1 v) (1 - e)).length < 47 by rw [hrS_P]; omega) (Or.inr rfl) [] (fun q => absurd q (by decide)) (fun q => absurd q (by decide))) (Nat.le_of_ble_eq_true rfl) (Nat.le_of_ble_eq_true rfl) ?_
              rintro _ M2 ⟨sl, hsl, rfl, hla, hR2, hc⟩
              have hC2 := hC1.tr hc
              refine g_pop 107 dMod_getSetting_107 rfl ?_
              refine g_iconst 108 0 dMod_getSetting_108 rfl ?_
              exact g_iret 109 dMod_getSetting_109 rfl (by unfold gSt; rw [if_neg (rg_in (rg_1 v) h8 h16)]; exact ⟨rfl, hR2, hC2⟩)
      · refine g_aload_n 19 dMod_getSetting_19 rfl ?_
        refine g_iload_n 20 dMod_getSetting_20 rfl ?_
        refine g_iload_n 21 dMod_getSetting_21 rfl ?_
        refine g_iconst 22 4 dMod_getSetting_22 rfl ?_
        refine g_icmp_ne 23 30 dMod_getSetting_23 rfl (fun h23 => ?_) (fun h23 => ?_)
        · refine g_iconst 30 1 dMod_getSetting_30 rfl ?_
          refine g_callV 31 [_, _] dMod_getSetting_31 cs_Mod_249 rfl (ci := 10) rfl (by decide) hR.1.mod rfl ⟨(Nat.le_of_ble_eq_true rfl), (Nat.le_of_ble_eq_true rfl)⟩ (Nat.le_of_ble_eq_true rfl) (ct_lerrM hR he (show (zP A (1 - e)).length < 47 by omega)) (Nat.le_of_ble_eq_true rfl) (Nat.le_of_ble_eq_true rfl) ?_
          rintro _ M1 ⟨rfl, hR1, hc⟩
          have hC1 := hC.tr hc
          exact g_iret 34 dMod_getSetting_34 rfl (by unfold gSt; rw [if_pos (rg_out (rg_1 v) (by first | exact Or.inl h8 | exact Or.inr h16))]; exact ⟨rfl, hR1, hC1⟩)
        · exact absurd h23 (by decide)

set_option maxRecDepth 100000 in
set_option maxHeartbeats 4000000 in
theorem ct_gStM_3 {X : mX} {l : Launch} {M : mM} {A : zA} {e : Nat} (hR : RR M A) (he : e < 2) {v : Int32} (hp : (zP A (1 - e)).length ≤ 44) : Ct X l uMod_getSetting (rk 2 48) [.ref 169, .int (nI e), .int 3, .int v] M (fun r M' => r = some (.int (gSt A e 3 v).1) ∧ RR M' (gSt A e 3 v).2 ∧ Chg M M' mP no2) := by
  refine Ct.of (by decide) (Nat.le_of_ble_eq_true rfl) ?_
  show G X l uMod_getSetting (rk 2 48) 0 0 M 0 [some (.ref 169), some (.int (nI e)), some (.int 3), some (.int v)] [] _
  have hC : Chg M M mP no2 := Chg.rf
  refine g_iload_n 0 dMod_getSetting_0 rfl ?_
  refine g_callS 1 [_] dMod_getSetting_1 cs_Mod_279 rfl rfl ⟨(Nat.le_of_ble_eq_true rfl), (Nat.le_of_ble_eq_true rfl)⟩ (Nat.le_of_ble_eq_true rfl) (cm_known) (Nat.le_of_ble_eq_true rfl) (Nat.le_of_ble_eq_true rfl) ?_
  rintro _ M2 ⟨rfl, hM2⟩
  rw [hM2]
  clear hM2 M2
  refine g_top 1 (by decide) ?_
  refine g_if_eq 4 96 dMod_getSetting_4 rfl (fun h4 => ?_) (fun h4 => ?_)
  · exact absurd h4 (by decide)
  · refine g_iload_n 7 dMod_getSetting_7 rfl ?_
    refine g_if_lt 8 19 dMod_getSetting_8 rfl (fun h8 => ?_) (fun h8 => ?_)
    · refine g_aload_n 19 dMod_getSetting_19 rfl ?_
      refine g_iload_n 20 dMod_getSetting_20 rfl ?_
      refine g_iload_n 21 dMod_getSetting_21 rfl ?_
      refine g_iconst 22 4 dMod_getSetting_22 rfl ?_
      refine g_icmp_ne 23 30 dMod_getSetting_23 rfl (fun h23 => ?_) (fun h23 => ?_)
      · refine g_iconst 30 1 dMod_getSetting_30 rfl ?_
        refine g_callV 31 [_, _] dMod_getSetting_31 cs_Mod_249 rfl (ci := 10) rfl (by decide) hR.1.mod rfl ⟨(Nat.le_of_ble_eq_true rfl), (Nat.le_of_ble_eq_true rfl)⟩ (Nat.le_of_ble_eq_true rfl) (ct_lerrM hR he (show (zP A (1 - e)).length < 47 by omega)) (Nat.le_of_ble_eq_true rfl) (Nat.le_of_ble_eq_true rfl) ?_
        rintro _ M1 ⟨rfl, hR1, hc⟩
        have hC1 := hC.tr hc
        exact g_iret 34 dMod_getSetting_34 rfl (by unfold gSt; rw [if_pos (rg_out (rg_3 v) (by first | exact Or.inl h8 | exact Or.inr h16))]; exact ⟨rfl, hR1, hC1⟩)
      · exact absurd h23 (by decide)
    · refine g_iload_n 11 dMod_getSetting_11 rfl ?_
      refine g_iload_n 12 dMod_getSetting_12 rfl ?_
      refine g_callS 13 [_] dMod_getSetting_13 cs_Mod_282 rfl rfl ⟨(Nat.le_of_ble_eq_true rfl), (Nat.le_of_ble_eq_true rfl)⟩ (Nat.le_of_ble_eq_true rfl) (cm_highest) (Nat.le_of_ble_eq_true rfl) (Nat.le_of_ble_eq_true rfl) ?_
      rintro _ M2 ⟨rfl, hM2⟩
      rw [hM2]
      clear hM2 M2
      refine g_top 12 (by decide) ?_
      refine g_icmp_le 16 35 dMod_getSetting_16 rfl (fun h16 => ?_) (fun h16 => ?_)
      · refine g_aload_n 35 dMod_getSetting_35 rfl ?_
        refine g_getr 36 10 37 dMod_getSetting_36 fs_Mod_120 rfl hR.1.mod hR.1.R_told ?_
        refine g_iconst 39 (nI 3) dMod_getSetting_39 rfl ?_
        refine g_iload_n 40 dMod_getSetting_40 rfl ?_
        refine g_imulN 41 dMod_getSetting_41 ?_
        refine g_iload_n 42 dMod_getSetting_42 rfl ?_
        refine g_callS 43 [_] dMod_getSetting_43 cs_Mod_276 rfl rfl ⟨(Nat.le_of_ble_eq_true rfl), (Nat.le_of_ble_eq_true rfl)⟩ (Nat.le_of_ble_eq_true rfl) (cm_place) (Nat.le_of_ble_eq_true rfl) (Nat.le_of_ble_eq_true rfl) ?_
        rintro _ M2 ⟨rfl, hM2⟩
        rw [hM2]
        clear hM2 M2
        refine g_top (nI 1) (by decide) ?_
        refine g_iaddN 46 dMod_getSetting_46 ?_
        refine g_iload_n 47 dMod_getSetting_47 rfl ?_
        refine g_iastN 48 dMod_getSetting_48 hR.1.T_told (by omega) (by decide) ?_
        refine g_iload_n 49 dMod_getSetting_49 rfl ?_
        refine g_iconst 50 1 dMod_getSetting_50 rfl ?_
        refine g_icmp_ne 51 96 dMod_getSetting_51 rfl (fun h51 => ?_) (fun h51 => ?_)
        · refine g_memM (A := hrS A e 3 v) (hR.t1 he) (kM hC (by decide)) (fun M1 hR1 hC1 => ?_)
          refine g_aload_n 96 dMod_getSetting_96 rfl ?_
          refine g_iconst 97 (nI 1) dMod_getSetting_97 rfl ?_
          refine g_iload_n 98 dMod_getSetting_98 rfl ?_
          refine g_isubN 99 dMod_getSetting_99 (by omega) ?_
          refine g_iconst 100 4 dMod_getSetting_100 rfl ?_
          refine g_iconst 101 0 dMod_getSetting_101 rfl ?_
          refine g_iconst 102 0 dMod_getSetting_102 rfl ?_
          refine g_iconst 103 1 dMod_getSetting_103 rfl ?_
          refine g_callV 104 [_, _, _, _, _] dMod_getSetting_104 cs_Mod_182 rfl (ci := 10) rfl (by decide) hR1.1.mod rfl ⟨(Nat.le_of_ble_eq_true rfl), (Nat.le_of_ble_eq_true rfl)⟩ (Nat.le_of_ble_eq_true rfl) (ct_pushR hR1 (by omega) (show (zP (hrS A e 3 v) (1 - e)).length < 47 by rw [hrS_P]; omega) (Or.inr rfl) [] (fun q => absurd q (by decide)) (fun q => absurd q (by decide))) (Nat.le_of_ble_eq_true rfl) (Nat.le_of_ble_eq_true rfl) ?_
          rintro _ M2 ⟨sl, hsl, rfl, hla, hR2, hc⟩
          have hC2 := hC1.tr hc
          refine g_pop 107 dMod_getSetting_107 rfl ?_
          refine g_iconst 108 0 dMod_getSetting_108 rfl ?_
          exact g_iret 109 dMod_getSetting_109 rfl (by unfold gSt; rw [if_neg (rg_in (rg_3 v) h8 h16)]; exact ⟨rfl, hR2, hC2⟩)
        · exact absurd h51 (by decide)
      · refine g_aload_n 19 dMod_getSetting_19 rfl ?_
        refine g_iload_n 20 dMod_getSetting_20 rfl ?_
        refine g_iload_n 21 dMod_getSetting_21 rfl ?_
        refine g_iconst 22 4 dMod_getSetting_22 rfl ?_
        refine g_icmp_ne 23 30 dMod_getSetting_23 rfl (fun h23 => ?_) (fun h23 => ?_)
        · refine g_iconst 30 1 dMod_getSetting_30 rfl ?_
          refine g_callV 31 [_, _] dMod_getSetting_31 cs_Mod_249 rfl (ci := 10) rfl (by decide) hR.1.mod rfl ⟨(Nat.le_of_ble_eq_true rfl), (Nat.le_of_ble_eq_true rfl)⟩ (Nat.le_of_ble_eq_true rfl) (ct_lerrM hR he (show (zP A (1 - e)).length < 47 by omega)) (Nat.le_of_ble_eq_true rfl) (Nat.le_of_ble_eq_true rfl) ?_
          rintro _ M1 ⟨rfl, hR1, hc⟩
          have hC1 := hC.tr hc
          exact g_iret 34 dMod_getSetting_34 rfl (by unfold gSt; rw [if_pos (rg_out (rg_3 v) (by first | exact Or.inl h8 | exact Or.inr h16))]; exact ⟨rfl, hR1, hC1⟩)
        · exact absurd h23 (by decide)

set_option maxRecDepth 100000 in
set_option maxHeartbeats 4000000 in
theorem ct_gStM_4 {X : mX} {l : Launch} {M : mM} {A : zA} {e : Nat} (hR : RR M A) (he : e < 2) {v : Int32} (hp : (zP A (1 - e)).length ≤ 44) : Ct X l uMod_getSetting (rk 2 48) [.ref 169, .int (nI e), .int 4, .int v] M (fun r M' => r = some (.int (gSt A e 4 v).1) ∧ RR M' (gSt A e 4 v).2 ∧ Chg M M' mP no2) := by
  refine Ct.of (by decide) (Nat.le_of_ble_eq_true rfl) ?_
  show G X l uMod_getSetting (rk 2 48) 0 0 M 0 [some (.ref 169), some (.int (nI e)), some (.int 4), some (.int v)] [] _
  have hC : Chg M M mP no2 := Chg.rf
  refine g_iload_n 0 dMod_getSetting_0 rfl ?_
  refine g_callS 1 [_] dMod_getSetting_1 cs_Mod_279 rfl rfl ⟨(Nat.le_of_ble_eq_true rfl), (Nat.le_of_ble_eq_true rfl)⟩ (Nat.le_of_ble_eq_true rfl) (cm_known) (Nat.le_of_ble_eq_true rfl) (Nat.le_of_ble_eq_true rfl) ?_
  rintro _ M2 ⟨rfl, hM2⟩
  rw [hM2]
  clear hM2 M2
  refine g_top 1 (by decide) ?_
  refine g_if_eq 4 96 dMod_getSetting_4 rfl (fun h4 => ?_) (fun h4 => ?_)
  · exact absurd h4 (by decide)
  · refine g_iload_n 7 dMod_getSetting_7 rfl ?_
    refine g_if_lt 8 19 dMod_getSetting_8 rfl (fun h8 => ?_) (fun h8 => ?_)
    · refine g_aload_n 19 dMod_getSetting_19 rfl ?_
      refine g_iload_n 20 dMod_getSetting_20 rfl ?_
      refine g_iload_n 21 dMod_getSetting_21 rfl ?_
      refine g_iconst 22 4 dMod_getSetting_22 rfl ?_
      refine g_icmp_ne 23 30 dMod_getSetting_23 rfl (fun h23 => ?_) (fun h23 => ?_)
      · exact absurd (by decide) h23
      · refine g_iconst 26 3 dMod_getSetting_26 rfl ?_
        refine g_goto 27 31 dMod_getSetting_27 rfl ?_
        refine g_callV 31 [_, _] dMod_getSetting_31 cs_Mod_249 rfl (ci := 10) rfl (by decide) hR.1.mod rfl ⟨(Nat.le_of_ble_eq_true rfl), (Nat.le_of_ble_eq_true rfl)⟩ (Nat.le_of_ble_eq_true rfl) (ct_lerrM hR he (show (zP A (1 - e)).length < 47 by omega)) (Nat.le_of_ble_eq_true rfl) (Nat.le_of_ble_eq_true rfl) ?_
        rintro _ M1 ⟨rfl, hR1, hc⟩
        have hC1 := hC.tr hc
        exact g_iret 34 dMod_getSetting_34 rfl (by unfold gSt; rw [if_pos (rg_out (rg_4 v) (by first | exact Or.inl h8 | exact Or.inr h16))]; exact ⟨rfl, hR1, hC1⟩)
    · refine g_iload_n 11 dMod_getSetting_11 rfl ?_
      refine g_iload_n 12 dMod_getSetting_12 rfl ?_
      refine g_callS 13 [_] dMod_getSetting_13 cs_Mod_282 rfl rfl ⟨(Nat.le_of_ble_eq_true rfl), (Nat.le_of_ble_eq_true rfl)⟩ (Nat.le_of_ble_eq_true rfl) (cm_highest) (Nat.le_of_ble_eq_true rfl) (Nat.le_of_ble_eq_true rfl) ?_
      rintro _ M2 ⟨rfl, hM2⟩
      rw [hM2]
      clear hM2 M2
      refine g_top 64 (by decide) ?_
      refine g_icmp_le 16 35 dMod_getSetting_16 rfl (fun h16 => ?_) (fun h16 => ?_)
      · refine g_aload_n 35 dMod_getSetting_35 rfl ?_
        refine g_getr 36 10 37 dMod_getSetting_36 fs_Mod_120 rfl hR.1.mod hR.1.R_told ?_
        refine g_iconst 39 (nI 3) dMod_getSetting_39 rfl ?_
        refine g_iload_n 40 dMod_getSetting_40 rfl ?_
        refine g_imulN 41 dMod_getSetting_41 ?_
        refine g_iload_n 42 dMod_getSetting_42 rfl ?_
        refine g_callS 43 [_] dMod_getSetting_43 cs_Mod_276 rfl rfl ⟨(Nat.le_of_ble_eq_true rfl), (Nat.le_of_ble_eq_true rfl)⟩ (Nat.le_of_ble_eq_true rfl) (cm_place) (Nat.le_of_ble_eq_true rfl) (Nat.le_of_ble_eq_true rfl) ?_
        rintro _ M2 ⟨rfl, hM2⟩
        rw [hM2]
        clear hM2 M2
        refine g_top (nI 2) (by decide) ?_
        refine g_iaddN 46 dMod_getSetting_46 ?_
        refine g_iload_n 47 dMod_getSetting_47 rfl ?_
        refine g_iastN 48 dMod_getSetting_48 hR.1.T_told (by omega) (by decide) ?_
        refine g_iload_n 49 dMod_getSetting_49 rfl ?_
        refine g_iconst 50 1 dMod_getSetting_50 rfl ?_
        refine g_icmp_ne 51 96 dMod_getSetting_51 rfl (fun h51 => ?_) (fun h51 => ?_)
        · refine g_memM (A := hrS A e 4 v) (hR.tw he) (kM hC (by decide)) (fun M1 hR1 hC1 => ?_)
          refine g_aload_n 96 dMod_getSetting_96 rfl ?_
          refine g_iconst 97 (nI 1) dMod_getSetting_97 rfl ?_
          refine g_iload_n 98 dMod_getSetting_98 rfl ?_
          refine g_isubN 99 dMod_getSetting_99 (by omega) ?_
          refine g_iconst 100 4 dMod_getSetting_100 rfl ?_
          refine g_iconst 101 0 dMod_getSetting_101 rfl ?_
          refine g_iconst 102 0 dMod_getSetting_102 rfl ?_
          refine g_iconst 103 1 dMod_getSetting_103 rfl ?_
          refine g_callV 104 [_, _, _, _, _] dMod_getSetting_104 cs_Mod_182 rfl (ci := 10) rfl (by decide) hR1.1.mod rfl ⟨(Nat.le_of_ble_eq_true rfl), (Nat.le_of_ble_eq_true rfl)⟩ (Nat.le_of_ble_eq_true rfl) (ct_pushR hR1 (by omega) (show (zP (hrS A e 4 v) (1 - e)).length < 47 by rw [hrS_P]; omega) (Or.inr rfl) [] (fun q => absurd q (by decide)) (fun q => absurd q (by decide))) (Nat.le_of_ble_eq_true rfl) (Nat.le_of_ble_eq_true rfl) ?_
          rintro _ M2 ⟨sl, hsl, rfl, hla, hR2, hc⟩
          have hC2 := hC1.tr hc
          refine g_pop 107 dMod_getSetting_107 rfl ?_
          refine g_iconst 108 0 dMod_getSetting_108 rfl ?_
          exact g_iret 109 dMod_getSetting_109 rfl (by unfold gSt; rw [if_neg (rg_in (rg_4 v) h8 h16)]; exact ⟨rfl, hR2, hC2⟩)
        · exact absurd h51 (by decide)
      · refine g_aload_n 19 dMod_getSetting_19 rfl ?_
        refine g_iload_n 20 dMod_getSetting_20 rfl ?_
        refine g_iload_n 21 dMod_getSetting_21 rfl ?_
        refine g_iconst 22 4 dMod_getSetting_22 rfl ?_
        refine g_icmp_ne 23 30 dMod_getSetting_23 rfl (fun h23 => ?_) (fun h23 => ?_)
        · exact absurd (by decide) h23
        · refine g_iconst 26 3 dMod_getSetting_26 rfl ?_
          refine g_goto 27 31 dMod_getSetting_27 rfl ?_
          refine g_callV 31 [_, _] dMod_getSetting_31 cs_Mod_249 rfl (ci := 10) rfl (by decide) hR.1.mod rfl ⟨(Nat.le_of_ble_eq_true rfl), (Nat.le_of_ble_eq_true rfl)⟩ (Nat.le_of_ble_eq_true rfl) (ct_lerrM hR he (show (zP A (1 - e)).length < 47 by omega)) (Nat.le_of_ble_eq_true rfl) (Nat.le_of_ble_eq_true rfl) ?_
          rintro _ M1 ⟨rfl, hR1, hc⟩
          have hC1 := hC.tr hc
          exact g_iret 34 dMod_getSetting_34 rfl (by unfold gSt; rw [if_pos (rg_out (rg_4 v) (by first | exact Or.inl h8 | exact Or.inr h16))]; exact ⟨rfl, hR1, hC1⟩)

def opP (e : Nat) (a j : Nat) : Prop := (a = 210 ∧ j = e) ∨ ((a = 211 ∨ a = 212) ∧ 8 * e ≤ j ∧ j < 8 * e + 8)
def akI (M M1 : mM) (e N n : Nat) : Prop := Chg M M1 (opP e) no2 ∧ mI M1 210 e = nI N ∧ ∀ a, (a = 211 ∨ a = 212) → ∀ j, j ≤ N → mI M1 a (8 * e + j) = if j < n then mI M a (8 * e + j + 1) else mI M a (8 * e + j)
theorem akI_st {M M1 : mM} {e N n : Nat} (hN : N ≤ 7) (hn : n < N) (h : akI M M1 e N n) : akI M (setI (setI M1 211 (8 * e + n) (mI M1 211 (8 * e + n + 1))) 212 (8 * e + n) (mI M1 212 (8 * e + n + 1))) e N (n + 1) := by
  refine ⟨(h.1.setI (Or.inl (Or.inr ⟨Or.inl rfl, by omega, by omega⟩))).setI (Or.inl (Or.inr ⟨Or.inr rfl, by omega, by omega⟩)), ?_, fun a ha j hj => ?_⟩
  · rw [mI_setI, up2_a (by decide), mI_setI, up2_a (by decide)]
    exact h.2.1
  · have h1 := h.2.2 a ha j hj
    have h2 := h.2.2 a ha (n + 1) (by omega)
    rw [if_neg (by omega), ← Nat.add_assoc] at h2
    simp only [mI_setI, up2]
    by_cases q : j = n
    · subst q
      rw [if_pos (Nat.lt_succ_self _)]
      rcases ha with rfl | rfl
      · rw [if_neg (by omega), if_pos ⟨rfl, rfl⟩]; exact h2
      · rw [if_pos ⟨rfl, rfl⟩]; exact h2
    · rw [if_neg (by omega), if_neg (by omega), h1]
      by_cases q2 : j < n
      · rw [if_pos q2, if_pos (by omega)]
      · rw [if_neg q2, if_neg (by omega)]
set_option maxRecDepth 100000 in
set_option maxHeartbeats 4000000 in
theorem g_akM {X : mX} {l : Launch} {M : mM} {e N : Nat} {s v : Int32} {Q : Option Value → mM → Prop} (hSM : Shp M) (he : e < 2) (hN : N ≤ 7) (hq : ∀ M', akI M M' e N N → G X l uMod_getAck (rk 2 48) 0 0 M' 122 [some (.ref 169), some (.int (nI e)), some (.int s), some (.int v), some (.int (nI N))] [] Q) : ∀ (j n : Nat), n + j = N → ∀ M1, akI M M1 e N n → G X l uMod_getAck (rk 2 48) 0 0 M1 53 [some (.ref 169), some (.int (nI e)), some (.int s), some (.int v), some (.int (nI n))] [] Q
  | 0, n, hn, M1, hI => by
    have hn : n = N := by omega
    subst hn
    have hS := hSM.mv hI.1 (fun _ _ q => q.elim)
    refine g_iload 53 dMod_getAck_53 rfl ?_
    refine g_aload_n 55 dMod_getAck_55 rfl ?_
    refine g_getr 56 10 41 dMod_getAck_56 fs_Mod_132 rfl hS.mod hS.R_open ?_
    refine g_iload_n 59 dMod_getAck_59 rfl ?_
    refine g_ialdN 60 dMod_getAck_60 hS.T_open (by omega) (by decide) ?_
    refine g_top (nI (n)) (hI.2.1) ?_
    refine g_icmp_geN 61 122 dMod_getAck_61 rfl (by omega) (by omega) (fun h61 => ?_) (fun h61 => ?_)
    · exact hq M1 hI
    · exact absurd (Nat.le_refl _) h61
  | j + 1, n, hn, M1, hI => by
    have hS := hSM.mv hI.1 (fun _ _ q => q.elim)
    have ih := g_akM (X := X) (l := l) hSM he hN hq j (n + 1) (by omega)
    refine g_iload 53 dMod_getAck_53 rfl ?_
    refine g_aload_n 55 dMod_getAck_55 rfl ?_
    refine g_getr 56 10 41 dMod_getAck_56 fs_Mod_132 rfl hS.mod hS.R_open ?_
    refine g_iload_n 59 dMod_getAck_59 rfl ?_
    refine g_ialdN 60 dMod_getAck_60 hS.T_open (by omega) (by decide) ?_
    refine g_top (nI (N)) (hI.2.1) ?_
    refine g_icmp_geN 61 122 dMod_getAck_61 rfl (by omega) (by omega) (fun h61 => ?_) (fun h61 => ?_)
    · exact absurd h61 (by omega)
    · refine g_aload_n 64 dMod_getAck_64 rfl ?_
      refine g_getr 65 10 42 dMod_getAck_65 fs_Mod_135 rfl hS.mod hS.R_openSetting ?_
      refine g_bipush 68 (nI 8) dMod_getAck_68 rfl ?_
      refine g_iload_n 70 dMod_getAck_70 rfl ?_
      refine g_imulN 71 dMod_getAck_71 ?_
      refine g_iload 72 dMod_getAck_72 rfl ?_
      refine g_iaddN 74 dMod_getAck_74 ?_
      refine g_aload_n 75 dMod_getAck_75 rfl ?_
      refine g_getr 76 10 42 dMod_getAck_76 fs_Mod_135 rfl hS.mod hS.R_openSetting ?_
      refine g_bipush 79 (nI 8) dMod_getAck_79 rfl ?_
      refine g_iload_n 81 dMod_getAck_81 rfl ?_
      refine g_imulN 82 dMod_getAck_82 ?_
      refine g_iload 83 dMod_getAck_83 rfl ?_
      refine g_iaddN 85 dMod_getAck_85 ?_
      refine g_iconst 86 (nI 1) dMod_getAck_86 rfl ?_
      refine g_iaddN 87 dMod_getAck_87 ?_
      refine g_ialdN 88 dMod_getAck_88 hS.T_openSetting (by omega) (by decide) ?_
      refine g_iastN 89 dMod_getAck_89 hS.T_openSetting (by omega) (by decide) ?_
      refine g_aload_n 90 dMod_getAck_90 rfl ?_
      refine g_getr 91 10 43 dMod_getAck_91 fs_Mod_138 rfl hS.mod hS.R_openValue ?_
      refine g_bipush 94 (nI 8) dMod_getAck_94 rfl ?_
      refine g_iload_n 96 dMod_getAck_96 rfl ?_
      refine g_imulN 97 dMod_getAck_97 ?_
      refine g_iload 98 dMod_getAck_98 rfl ?_
      refine g_iaddN 100 dMod_getAck_100 ?_
      refine g_aload_n 101 dMod_getAck_101 rfl ?_
      refine g_getr 102 10 43 dMod_getAck_102 fs_Mod_138 rfl hS.mod hS.R_openValue ?_
      refine g_bipush 105 (nI 8) dMod_getAck_105 rfl ?_
      refine g_iload_n 107 dMod_getAck_107 rfl ?_
      refine g_imulN 108 dMod_getAck_108 ?_
      refine g_iload 109 dMod_getAck_109 rfl ?_
      refine g_iaddN 111 dMod_getAck_111 ?_
      refine g_iconst 112 (nI 1) dMod_getAck_112 rfl ?_
      refine g_iaddN 113 dMod_getAck_113 ?_
      refine g_ialdN 114 dMod_getAck_114 hS.T_openValue (by omega) (by decide) ?_
      refine g_top (mI M1 212 (8 * e + n + 1)) (sI_a (by decide)) ?_
      refine g_iastN 115 dMod_getAck_115 hS.T_openValue (by omega) (by decide) ?_
      refine g_iincN 116 dMod_getAck_116 rfl (by decide) rfl ?_
      refine g_goto 119 53 dMod_getAck_119 rfl ?_
      exact ih _ (akI_st hN (by omega) hI)
set_option maxRecDepth 100000 in
set_option maxHeartbeats 4000000 in
theorem ct_gAkM_0 {X : mX} {l : Launch} {M : mM} {A : zA} {e : Nat} (hR : RR M A) (he : e < 2) (hp : (zP A (1 - e)).length ≤ 44) (hd : zD A e = []) : Ct X l uMod_getAck (rk 2 48) [.ref 169, .int (nI e)] M (fun r M' => r = some (.int (100 + 1)) ∧ RR M' (lerr A e 1) ∧ Chg M M' mP no2) := by
  refine Ct.of (by decide) (Nat.le_of_ble_eq_true rfl) ?_
  show G X l uMod_getAck (rk 2 48) 0 0 M 0 [some (.ref 169), some (.int (nI e)), none, none, none] [] _
  have hC : Chg M M mP no2 := Chg.rf
  refine g_aload_n 0 dMod_getAck_0 rfl ?_
  refine g_getr 1 10 41 dMod_getAck_1 fs_Mod_132 rfl hR.1.mod hR.1.R_open ?_
  refine g_iload_n 4 dMod_getAck_4 rfl ?_
  refine g_ialdN 5 dMod_getAck_5 hR.1.T_open (by omega) (by decide) ?_
  refine g_top (nI (0)) ((hR.pd he).1.trans (by rw [hd]; rfl)) ?_
  refine g_if_neN 6 16 dMod_getAck_6 rfl (by omega) (fun h6 => ?_) (fun h6 => ?_)
  · exact absurd rfl h6
  · refine g_aload_n 9 dMod_getAck_9 rfl ?_
    refine g_iload_n 10 dMod_getAck_10 rfl ?_
    refine g_iconst 11 1 dMod_getAck_11 rfl ?_
    refine g_callV 12 [_, _] dMod_getAck_12 cs_Mod_249 rfl (ci := 10) rfl (by decide) hR.1.mod rfl ⟨(Nat.le_of_ble_eq_true rfl), (Nat.le_of_ble_eq_true rfl)⟩ (Nat.le_of_ble_eq_true rfl) (ct_lerrM hR he (show (zP A (1 - e)).length < 47 by omega)) (Nat.le_of_ble_eq_true rfl) (Nat.le_of_ble_eq_true rfl) ?_
    rintro _ M1 ⟨rfl, hR1, hc⟩
    have hC1 := hC.tr hc
    exact g_iret 15 dMod_getAck_15 rfl ⟨rfl, hR1, hC1⟩

theorem RR.nd {M : mM} {A : zA} {e : Nat} {z : Int32} (h : RR M A) (he : e < 2) (hz : z = zI A (19 + 80 * e) 1) : RR (setI M 209 e z) A := by
  obtain ⟨⟨a1, a2, a3⟩, ⟨b1, b2⟩, c1, d1, e1⟩ := h.se he
  have u : ∀ a j, a ≠ 209 → mI (setI M 209 e z) a j = mI M a j := fun a j q => up2_a q
  refine h.yN (f := zI A) he (fun _ _ _ _ _ _ => rfl) (Chg.rf.setI (Or.inl (Or.inr ⟨by omega, by omega, rfl⟩))) ⟨⟨(u _ _ (by decide)).trans a1, (u _ _ (by decide)).trans a2, (u _ _ (by decide)).trans a3⟩, ⟨(u _ _ (by decide)).trans b1, (u _ _ (by decide)).trans b2⟩, (u _ _ (by decide)).trans c1, fun q => ⟨(u _ _ (by decide)).trans (d1 q).1, (u _ _ (by decide)).trans (d1 q).2⟩, ?_⟩ (u _ _ (by decide)) (u _ _ (by decide))
  show up2 _ 209 e z 209 e = _
  rw [up2_same]
  exact hz
theorem fr_3 {M : mM} {A : zA} {e : Nat} {v z : Int32} (h : RR M A) (he : e < 2) (hz : z = zI A (19 + 80 * e) 1) : RR (setI (setI M 209 e z) 205 (3 * e + 1) v) (frcA A e 3 v) := by
  unfold frcA
  rw [if_neg (by decide), if_pos rfl]
  exact (h.nd he hz).f1 he
theorem fr_4 {M : mM} {A : zA} {e : Nat} {v z : Int32} (h : RR M A) (he : e < 2) (hz : z = zI A (19 + 80 * e) 1) : RR (setI (setI M 209 e z) 205 (3 * e + 2) v) (frcA A e 4 v) := by
  unfold frcA
  rw [if_neg (by decide), if_neg (by decide)]
  exact (h.nd he hz).fw he
theorem fr_1 {M : mM} {A : zA} {e : Nat} {v z : Int32} (h : RR M A) (he : e < 2) (hb : zI A (19 + 80 * e) 1 = 0 ∨ zI A (19 + 80 * e) 1 = 1) (hz : (¬ zI A (19 + 80 * e) 1 = 0 ∧ z = 1) ∨ (zI A (19 + 80 * e) 1 = 0 ∧ (zB A e 1).2 ≤ v ∧ z = 0) ∨ (zI A (19 + 80 * e) 1 = 0 ∧ ¬ (zB A e 1).2 ≤ v ∧ z = 1)) : RR (setI (setI M 209 e z) 205 (3 * e + 0) v) (frcA A e 1 v) := by
  have key : RR (setI (setI M 209 e z) 205 (3 * e + 0) v) (yI (yI A (19 + 80 * e) 1 z) (26 + 80 * e) 0 v) := h.f0 he
  have hsame : ∀ w, w = zI A (19 + 80 * e) 1 → yI A (19 + 80 * e) 1 w = A := fun w hw => by
    show (up2 (zI A) (19 + 80 * e) 1 w, A.2) = A
    have : up2 (zI A) (19 + 80 * e) 1 w = zI A := by
      funext a j
      unfold up2
      split
      · rename_i q
        obtain ⟨rfl, rfl⟩ := q
        exact hw
      · rfl
    rw [this]
  unfold frcA
  rw [if_pos rfl]
  unfold lifA
  rcases hz with ⟨q1, rfl⟩ | ⟨q1, q2, rfl⟩ | ⟨q1, q2, rfl⟩
  · have hb1 := hb.resolve_left q1
    split
    · rw [hsame 1 hb1.symm] at key
      exact key
    · exact key
  · rw [if_pos q2]
    rw [hsame 0 q1.symm] at key
    exact key
  · rw [if_neg q2]
    exact key
set_option maxRecDepth 100000 in
set_option maxHeartbeats 4000000 in
theorem g_akF_1 {X : mX} {l : Launch} {M0 M : mM} {A : zA} {e N : Nat} {v : Int32} (hR : RR M A) (hC : Chg M0 M mP no2) (he : e < 2) (hb19 : zI A (19 + 80 * e) 1 = 0 ∨ zI A (19 + 80 * e) 1 = 1) : G X l uMod_getAck (rk 2 48) 0 0 M 122 [some (.ref 169), some (.int (nI e)), some (.int 1), some (.int v), some (.int (nI N))] [] (fun r M' => r = some (.int 0) ∧ RR M' (frcA A e 1 v) ∧ Chg M0 M' mP no2) := by
  refine g_aload_n 122 dMod_getAck_122 rfl ?_
  refine g_getr 123 10 40 dMod_getAck_123 fs_Mod_129 rfl hR.1.mod hR.1.R_need ?_
  refine g_iload_n 126 dMod_getAck_126 rfl ?_
  refine g_aload_n 127 dMod_getAck_127 rfl ?_
  refine g_getr 128 10 40 dMod_getAck_128 fs_Mod_129 rfl hR.1.mod hR.1.R_need ?_
  refine g_iload_n 131 dMod_getAck_131 rfl ?_
  refine g_zaldN 132 dMod_getAck_132 hR.1.T_need (by omega) (by decide) ?_
  refine g_top (zI A (19 + 80 * e) 1) ((hR.se he).2.2.2.2) ?_
  refine g_if_ne 133 155 dMod_getAck_133 rfl (fun h133 => ?_) (fun h133 => ?_)
  · refine g_iconst 155 1 dMod_getAck_155 rfl ?_
    refine g_goto 156 160 dMod_getAck_156 rfl ?_
    refine g_zastN 160 dMod_getAck_160 hR.1.T_need (by omega) (by decide) (by decide) ?_
    refine g_aload_n 161 dMod_getAck_161 rfl ?_
    refine g_getr 162 10 36 dMod_getAck_162 fs_Mod_117 rfl hR.1.mod hR.1.R_force ?_
    refine g_iconst 165 (nI 3) dMod_getAck_165 rfl ?_
    refine g_iload_n 166 dMod_getAck_166 rfl ?_
    refine g_imulN 167 dMod_getAck_167 ?_
    refine g_iload_n 168 dMod_getAck_168 rfl ?_
    refine g_callS 169 [_] dMod_getAck_169 cs_Mod_276 rfl rfl ⟨(Nat.le_of_ble_eq_true rfl), (Nat.le_of_ble_eq_true rfl)⟩ (Nat.le_of_ble_eq_true rfl) (cm_place) (Nat.le_of_ble_eq_true rfl) (Nat.le_of_ble_eq_true rfl) ?_
    rintro _ M2 ⟨rfl, hM2⟩
    rw [hM2]
    clear hM2 M2
    refine g_top (nI 0) (by decide) ?_
    refine g_iaddN 172 dMod_getAck_172 ?_
    refine g_iload_n 173 dMod_getAck_173 rfl ?_
    refine g_iastN 174 dMod_getAck_174 hR.1.T_force (by omega) (by decide) ?_
    refine g_memM (A := frcA A e 1 v) (fr_1 hR he hb19 (by first | exact Or.inl ⟨h133, rfl⟩ | exact Or.inr (Or.inl ⟨Decidable.byContradiction h133, hq2, rfl⟩) | exact Or.inr (Or.inr ⟨Decidable.byContradiction h133, hq2, rfl⟩) | exact Or.inr (Or.inl ⟨h133, hq2, rfl⟩) | exact Or.inr (Or.inr ⟨h133, hq2, rfl⟩))) (kM (kM hC (by decide)) (by decide)) (fun M1 hR1 hC1 => ?_)
    refine g_iconst 175 0 dMod_getAck_175 rfl ?_
    exact g_iret 176 dMod_getAck_176 rfl (by (try rw [if_neg h133]); exact ⟨rfl, hR1, hC1⟩)
  · refine g_iload_n 136 dMod_getAck_136 rfl ?_
    refine g_iconst 137 1 dMod_getAck_137 rfl ?_
    refine g_icmp_ne 138 159 dMod_getAck_138 rfl (fun h138 => ?_) (fun h138 => ?_)
    · exact absurd rfl h138
    · refine g_iload_n 141 dMod_getAck_141 rfl ?_
      refine g_aload_n 142 dMod_getAck_142 rfl ?_
      refine g_getr 143 10 44 dMod_getAck_143 fs_Mod_141 rfl hR.1.mod hR.1.R_maximum ?_
      refine g_iconst 146 (nI 2) dMod_getAck_146 rfl ?_
      refine g_iload_n 147 dMod_getAck_147 rfl ?_
      refine g_imulN 148 dMod_getAck_148 ?_
      refine g_iconst 149 (nI 1) dMod_getAck_149 rfl ?_
      refine g_iaddN 150 dMod_getAck_150 ?_
      refine g_ialdN 151 dMod_getAck_151 hR.1.T_maximum (by omega) (by decide) ?_
      refine g_top ((zB A e 1).2) ((hR.tb he (g := 1) (by decide)).2.2.1) ?_
      refine g_icmp_ge 152 159 dMod_getAck_152 rfl (fun h152 => ?_) (fun h152 => ?_)
      · have hq2 : (zB A e 1).2 ≤ v := h152
        refine g_iconst 159 0 dMod_getAck_159 rfl ?_
        refine g_zastN 160 dMod_getAck_160 hR.1.T_need (by omega) (by decide) (by decide) ?_
        refine g_aload_n 161 dMod_getAck_161 rfl ?_
        refine g_getr 162 10 36 dMod_getAck_162 fs_Mod_117 rfl hR.1.mod hR.1.R_force ?_
        refine g_iconst 165 (nI 3) dMod_getAck_165 rfl ?_
        refine g_iload_n 166 dMod_getAck_166 rfl ?_
        refine g_imulN 167 dMod_getAck_167 ?_
        refine g_iload_n 168 dMod_getAck_168 rfl ?_
        refine g_callS 169 [_] dMod_getAck_169 cs_Mod_276 rfl rfl ⟨(Nat.le_of_ble_eq_true rfl), (Nat.le_of_ble_eq_true rfl)⟩ (Nat.le_of_ble_eq_true rfl) (cm_place) (Nat.le_of_ble_eq_true rfl) (Nat.le_of_ble_eq_true rfl) ?_
        rintro _ M2 ⟨rfl, hM2⟩
        rw [hM2]
        clear hM2 M2
        refine g_top (nI 0) (by decide) ?_
        refine g_iaddN 172 dMod_getAck_172 ?_
        refine g_iload_n 173 dMod_getAck_173 rfl ?_
        refine g_iastN 174 dMod_getAck_174 hR.1.T_force (by omega) (by decide) ?_
        refine g_memM (A := frcA A e 1 v) (fr_1 hR he hb19 (by first | exact Or.inl ⟨h133, rfl⟩ | exact Or.inr (Or.inl ⟨Decidable.byContradiction h133, hq2, rfl⟩) | exact Or.inr (Or.inr ⟨Decidable.byContradiction h133, hq2, rfl⟩) | exact Or.inr (Or.inl ⟨h133, hq2, rfl⟩) | exact Or.inr (Or.inr ⟨h133, hq2, rfl⟩))) (kM (kM hC (by decide)) (by decide)) (fun M1 hR1 hC1 => ?_)
        refine g_iconst 175 0 dMod_getAck_175 rfl ?_
        exact g_iret 176 dMod_getAck_176 rfl (by (try rw [if_pos h133]); (try rw [if_pos h152]); exact ⟨rfl, hR1, hC1⟩)
      · have hq2 : ¬ (zB A e 1).2 ≤ v := h152
        refine g_iconst 155 1 dMod_getAck_155 rfl ?_
        refine g_goto 156 160 dMod_getAck_156 rfl ?_
        refine g_zastN 160 dMod_getAck_160 hR.1.T_need (by omega) (by decide) (by decide) ?_
        refine g_aload_n 161 dMod_getAck_161 rfl ?_
        refine g_getr 162 10 36 dMod_getAck_162 fs_Mod_117 rfl hR.1.mod hR.1.R_force ?_
        refine g_iconst 165 (nI 3) dMod_getAck_165 rfl ?_
        refine g_iload_n 166 dMod_getAck_166 rfl ?_
        refine g_imulN 167 dMod_getAck_167 ?_
        refine g_iload_n 168 dMod_getAck_168 rfl ?_
        refine g_callS 169 [_] dMod_getAck_169 cs_Mod_276 rfl rfl ⟨(Nat.le_of_ble_eq_true rfl), (Nat.le_of_ble_eq_true rfl)⟩ (Nat.le_of_ble_eq_true rfl) (cm_place) (Nat.le_of_ble_eq_true rfl) (Nat.le_of_ble_eq_true rfl) ?_
        rintro _ M2 ⟨rfl, hM2⟩
        rw [hM2]
        clear hM2 M2
        refine g_top (nI 0) (by decide) ?_
        refine g_iaddN 172 dMod_getAck_172 ?_
        refine g_iload_n 173 dMod_getAck_173 rfl ?_
        refine g_iastN 174 dMod_getAck_174 hR.1.T_force (by omega) (by decide) ?_
        refine g_memM (A := frcA A e 1 v) (fr_1 hR he hb19 (by first | exact Or.inl ⟨h133, rfl⟩ | exact Or.inr (Or.inl ⟨Decidable.byContradiction h133, hq2, rfl⟩) | exact Or.inr (Or.inr ⟨Decidable.byContradiction h133, hq2, rfl⟩) | exact Or.inr (Or.inl ⟨h133, hq2, rfl⟩) | exact Or.inr (Or.inr ⟨h133, hq2, rfl⟩))) (kM (kM hC (by decide)) (by decide)) (fun M1 hR1 hC1 => ?_)
        refine g_iconst 175 0 dMod_getAck_175 rfl ?_
        exact g_iret 176 dMod_getAck_176 rfl (by (try rw [if_pos h133]); (try rw [if_neg h152]); exact ⟨rfl, hR1, hC1⟩)
set_option maxRecDepth 100000 in
set_option maxHeartbeats 4000000 in
theorem g_akF_3 {X : mX} {l : Launch} {M0 M : mM} {A : zA} {e N : Nat} {v : Int32} (hR : RR M A) (hC : Chg M0 M mP no2) (he : e < 2) (hb19 : zI A (19 + 80 * e) 1 = 0 ∨ zI A (19 + 80 * e) 1 = 1) : G X l uMod_getAck (rk 2 48) 0 0 M 122 [some (.ref 169), some (.int (nI e)), some (.int 3), some (.int v), some (.int (nI N))] [] (fun r M' => r = some (.int 0) ∧ RR M' (frcA A e 3 v) ∧ Chg M0 M' mP no2) := by
  refine g_aload_n 122 dMod_getAck_122 rfl ?_
  refine g_getr 123 10 40 dMod_getAck_123 fs_Mod_129 rfl hR.1.mod hR.1.R_need ?_
  refine g_iload_n 126 dMod_getAck_126 rfl ?_
  refine g_aload_n 127 dMod_getAck_127 rfl ?_
  refine g_getr 128 10 40 dMod_getAck_128 fs_Mod_129 rfl hR.1.mod hR.1.R_need ?_
  refine g_iload_n 131 dMod_getAck_131 rfl ?_
  refine g_zaldN 132 dMod_getAck_132 hR.1.T_need (by omega) (by decide) ?_
  refine g_top (zI A (19 + 80 * e) 1) ((hR.se he).2.2.2.2) ?_
  refine g_if_ne 133 155 dMod_getAck_133 rfl (fun h133 => ?_) (fun h133 => ?_)
  · refine g_iconst 155 1 dMod_getAck_155 rfl ?_
    refine g_goto 156 160 dMod_getAck_156 rfl ?_
    refine g_zastN 160 dMod_getAck_160 hR.1.T_need (by omega) (by decide) (by decide) ?_
    refine g_aload_n 161 dMod_getAck_161 rfl ?_
    refine g_getr 162 10 36 dMod_getAck_162 fs_Mod_117 rfl hR.1.mod hR.1.R_force ?_
    refine g_iconst 165 (nI 3) dMod_getAck_165 rfl ?_
    refine g_iload_n 166 dMod_getAck_166 rfl ?_
    refine g_imulN 167 dMod_getAck_167 ?_
    refine g_iload_n 168 dMod_getAck_168 rfl ?_
    refine g_callS 169 [_] dMod_getAck_169 cs_Mod_276 rfl rfl ⟨(Nat.le_of_ble_eq_true rfl), (Nat.le_of_ble_eq_true rfl)⟩ (Nat.le_of_ble_eq_true rfl) (cm_place) (Nat.le_of_ble_eq_true rfl) (Nat.le_of_ble_eq_true rfl) ?_
    rintro _ M2 ⟨rfl, hM2⟩
    rw [hM2]
    clear hM2 M2
    refine g_top (nI 1) (by decide) ?_
    refine g_iaddN 172 dMod_getAck_172 ?_
    refine g_iload_n 173 dMod_getAck_173 rfl ?_
    refine g_iastN 174 dMod_getAck_174 hR.1.T_force (by omega) (by decide) ?_
    refine g_memM (A := frcA A e 3 v) (fr_3 hR he (by first | exact (hb19.resolve_left h133).symm | exact h133.symm)) (kM (kM hC (by decide)) (by decide)) (fun M1 hR1 hC1 => ?_)
    refine g_iconst 175 0 dMod_getAck_175 rfl ?_
    exact g_iret 176 dMod_getAck_176 rfl (by (try rw [if_neg h133]); exact ⟨rfl, hR1, hC1⟩)
  · refine g_iload_n 136 dMod_getAck_136 rfl ?_
    refine g_iconst 137 1 dMod_getAck_137 rfl ?_
    refine g_icmp_ne 138 159 dMod_getAck_138 rfl (fun h138 => ?_) (fun h138 => ?_)
    · refine g_iconst 159 0 dMod_getAck_159 rfl ?_
      refine g_zastN 160 dMod_getAck_160 hR.1.T_need (by omega) (by decide) (by decide) ?_
      refine g_aload_n 161 dMod_getAck_161 rfl ?_
      refine g_getr 162 10 36 dMod_getAck_162 fs_Mod_117 rfl hR.1.mod hR.1.R_force ?_
      refine g_iconst 165 (nI 3) dMod_getAck_165 rfl ?_
      refine g_iload_n 166 dMod_getAck_166 rfl ?_
      refine g_imulN 167 dMod_getAck_167 ?_
      refine g_iload_n 168 dMod_getAck_168 rfl ?_
      refine g_callS 169 [_] dMod_getAck_169 cs_Mod_276 rfl rfl ⟨(Nat.le_of_ble_eq_true rfl), (Nat.le_of_ble_eq_true rfl)⟩ (Nat.le_of_ble_eq_true rfl) (cm_place) (Nat.le_of_ble_eq_true rfl) (Nat.le_of_ble_eq_true rfl) ?_
      rintro _ M2 ⟨rfl, hM2⟩
      rw [hM2]
      clear hM2 M2
      refine g_top (nI 1) (by decide) ?_
      refine g_iaddN 172 dMod_getAck_172 ?_
      refine g_iload_n 173 dMod_getAck_173 rfl ?_
      refine g_iastN 174 dMod_getAck_174 hR.1.T_force (by omega) (by decide) ?_
      refine g_memM (A := frcA A e 3 v) (fr_3 hR he (by first | exact (hb19.resolve_left h133).symm | exact h133.symm)) (kM (kM hC (by decide)) (by decide)) (fun M1 hR1 hC1 => ?_)
      refine g_iconst 175 0 dMod_getAck_175 rfl ?_
      exact g_iret 176 dMod_getAck_176 rfl (by (try rw [if_pos h133]); exact ⟨rfl, hR1, hC1⟩)
    · exact absurd h138 (by decide)
set_option maxRecDepth 100000 in
set_option maxHeartbeats 4000000 in
theorem g_akF_4 {X : mX} {l : Launch} {M0 M : mM} {A : zA} {e N : Nat} {v : Int32} (hR : RR M A) (hC : Chg M0 M mP no2) (he : e < 2) (hb19 : zI A (19 + 80 * e) 1 = 0 ∨ zI A (19 + 80 * e) 1 = 1) : G X l uMod_getAck (rk 2 48) 0 0 M 122 [some (.ref 169), some (.int (nI e)), some (.int 4), some (.int v), some (.int (nI N))] [] (fun r M' => r = some (.int 0) ∧ RR M' (frcA A e 4 v) ∧ Chg M0 M' mP no2) := by
  refine g_aload_n 122 dMod_getAck_122 rfl ?_
  refine g_getr 123 10 40 dMod_getAck_123 fs_Mod_129 rfl hR.1.mod hR.1.R_need ?_
  refine g_iload_n 126 dMod_getAck_126 rfl ?_
  refine g_aload_n 127 dMod_getAck_127 rfl ?_
  refine g_getr 128 10 40 dMod_getAck_128 fs_Mod_129 rfl hR.1.mod hR.1.R_need ?_
  refine g_iload_n 131 dMod_getAck_131 rfl ?_
  refine g_zaldN 132 dMod_getAck_132 hR.1.T_need (by omega) (by decide) ?_
  refine g_top (zI A (19 + 80 * e) 1) ((hR.se he).2.2.2.2) ?_
  refine g_if_ne 133 155 dMod_getAck_133 rfl (fun h133 => ?_) (fun h133 => ?_)
  · refine g_iconst 155 1 dMod_getAck_155 rfl ?_
    refine g_goto 156 160 dMod_getAck_156 rfl ?_
    refine g_zastN 160 dMod_getAck_160 hR.1.T_need (by omega) (by decide) (by decide) ?_
    refine g_aload_n 161 dMod_getAck_161 rfl ?_
    refine g_getr 162 10 36 dMod_getAck_162 fs_Mod_117 rfl hR.1.mod hR.1.R_force ?_
    refine g_iconst 165 (nI 3) dMod_getAck_165 rfl ?_
    refine g_iload_n 166 dMod_getAck_166 rfl ?_
    refine g_imulN 167 dMod_getAck_167 ?_
    refine g_iload_n 168 dMod_getAck_168 rfl ?_
    refine g_callS 169 [_] dMod_getAck_169 cs_Mod_276 rfl rfl ⟨(Nat.le_of_ble_eq_true rfl), (Nat.le_of_ble_eq_true rfl)⟩ (Nat.le_of_ble_eq_true rfl) (cm_place) (Nat.le_of_ble_eq_true rfl) (Nat.le_of_ble_eq_true rfl) ?_
    rintro _ M2 ⟨rfl, hM2⟩
    rw [hM2]
    clear hM2 M2
    refine g_top (nI 2) (by decide) ?_
    refine g_iaddN 172 dMod_getAck_172 ?_
    refine g_iload_n 173 dMod_getAck_173 rfl ?_
    refine g_iastN 174 dMod_getAck_174 hR.1.T_force (by omega) (by decide) ?_
    refine g_memM (A := frcA A e 4 v) (fr_4 hR he (by first | exact (hb19.resolve_left h133).symm | exact h133.symm)) (kM (kM hC (by decide)) (by decide)) (fun M1 hR1 hC1 => ?_)
    refine g_iconst 175 0 dMod_getAck_175 rfl ?_
    exact g_iret 176 dMod_getAck_176 rfl (by (try rw [if_neg h133]); exact ⟨rfl, hR1, hC1⟩)
  · refine g_iload_n 136 dMod_getAck_136 rfl ?_
    refine g_iconst 137 1 dMod_getAck_137 rfl ?_
    refine g_icmp_ne 138 159 dMod_getAck_138 rfl (fun h138 => ?_) (fun h138 => ?_)
    · refine g_iconst 159 0 dMod_getAck_159 rfl ?_
      refine g_zastN 160 dMod_getAck_160 hR.1.T_need (by omega) (by decide) (by decide) ?_
      refine g_aload_n 161 dMod_getAck_161 rfl ?_
      refine g_getr 162 10 36 dMod_getAck_162 fs_Mod_117 rfl hR.1.mod hR.1.R_force ?_
      refine g_iconst 165 (nI 3) dMod_getAck_165 rfl ?_
      refine g_iload_n 166 dMod_getAck_166 rfl ?_
      refine g_imulN 167 dMod_getAck_167 ?_
      refine g_iload_n 168 dMod_getAck_168 rfl ?_
      refine g_callS 169 [_] dMod_getAck_169 cs_Mod_276 rfl rfl ⟨(Nat.le_of_ble_eq_true rfl), (Nat.le_of_ble_eq_true rfl)⟩ (Nat.le_of_ble_eq_true rfl) (cm_place) (Nat.le_of_ble_eq_true rfl) (Nat.le_of_ble_eq_true rfl) ?_
      rintro _ M2 ⟨rfl, hM2⟩
      rw [hM2]
      clear hM2 M2
      refine g_top (nI 2) (by decide) ?_
      refine g_iaddN 172 dMod_getAck_172 ?_
      refine g_iload_n 173 dMod_getAck_173 rfl ?_
      refine g_iastN 174 dMod_getAck_174 hR.1.T_force (by omega) (by decide) ?_
      refine g_memM (A := frcA A e 4 v) (fr_4 hR he (by first | exact (hb19.resolve_left h133).symm | exact h133.symm)) (kM (kM hC (by decide)) (by decide)) (fun M1 hR1 hC1 => ?_)
      refine g_iconst 175 0 dMod_getAck_175 rfl ?_
      exact g_iret 176 dMod_getAck_176 rfl (by (try rw [if_pos h133]); exact ⟨rfl, hR1, hC1⟩)
    · exact absurd h138 (by decide)
set_option maxRecDepth 100000 in
set_option maxHeartbeats 4000000 in
theorem ct_gAkM {X : mX} {l : Launch} {M : mM} {A : zA} {e : Nat} (hR : RR M A) (he : e < 2) {x : Int32 × Int32} {D : List (Int32 × Int32)} (hd : zD A e = x :: D) (hkn : x.1 = 1 ∨ x.1 = 3 ∨ x.1 = 4) (hb19 : zI A (19 + 80 * e) 1 = 0 ∨ zI A (19 + 80 * e) 1 = 1) : Ct X l uMod_getAck (rk 2 48) [.ref 169, .int (nI e)] M (fun r M' => r = some (.int 0) ∧ RR M' (frcA (yD A e D) e x.1 x.2) ∧ Chg M M' mP no2) := by
  refine Ct.of (by decide) (Nat.le_of_ble_eq_true rfl) ?_
  show G X l uMod_getAck (rk 2 48) 0 0 M 0 [some (.ref 169), some (.int (nI e)), none, none, none] [] _
  have hC : Chg M M mP no2 := Chg.rf
  have hpd := hR.pd he
  have hp8 : D.length + 1 ≤ 8 := by have := hpd.2.1; rw [hd] at this; exact this
  refine g_aload_n 0 dMod_getAck_0 rfl ?_
  refine g_getr 1 10 41 dMod_getAck_1 fs_Mod_132 rfl hR.1.mod hR.1.R_open ?_
  refine g_iload_n 4 dMod_getAck_4 rfl ?_
  refine g_ialdN 5 dMod_getAck_5 hR.1.T_open (by omega) (by decide) ?_
  refine g_top (nI ((D.length + 1))) (hpd.1.trans (by rw [hd]; rfl)) ?_
  refine g_if_neN 6 16 dMod_getAck_6 rfl (by omega) (fun h6 => ?_) (fun h6 => ?_)
  · refine g_aload_n 16 dMod_getAck_16 rfl ?_
    refine g_getr 17 10 42 dMod_getAck_17 fs_Mod_135 rfl hR.1.mod hR.1.R_openSetting ?_
    refine g_bipush 20 (nI 8) dMod_getAck_20 rfl ?_
    refine g_iload_n 22 dMod_getAck_22 rfl ?_
    refine g_imulN 23 dMod_getAck_23 ?_
    refine g_ialdN 24 dMod_getAck_24 hR.1.T_openSetting (by omega) (by decide) ?_
    refine g_top (x.1) ((hpd.2.2 0 x (by rw [hd]; rfl)).1) ?_
    refine g_istore_n 25 dMod_getAck_25 (by decide) rfl ?_
    refine g_aload_n 26 dMod_getAck_26 rfl ?_
    refine g_getr 27 10 43 dMod_getAck_27 fs_Mod_138 rfl hR.1.mod hR.1.R_openValue ?_
    refine g_bipush 30 (nI 8) dMod_getAck_30 rfl ?_
    refine g_iload_n 32 dMod_getAck_32 rfl ?_
    refine g_imulN 33 dMod_getAck_33 ?_
    refine g_ialdN 34 dMod_getAck_34 hR.1.T_openValue (by omega) (by decide) ?_
    refine g_top (x.2) ((hpd.2.2 0 x (by rw [hd]; rfl)).2) ?_
    refine g_istore_n 35 dMod_getAck_35 (by decide) rfl ?_
    refine g_aload_n 36 dMod_getAck_36 rfl ?_
    refine g_getr 37 10 41 dMod_getAck_37 fs_Mod_132 rfl hR.1.mod hR.1.R_open ?_
    refine g_iload_n 40 dMod_getAck_40 rfl ?_
    refine g_aload_n 41 dMod_getAck_41 rfl ?_
    refine g_getr 42 10 41 dMod_getAck_42 fs_Mod_132 rfl hR.1.mod hR.1.R_open ?_
    refine g_iload_n 45 dMod_getAck_45 rfl ?_
    refine g_ialdN 46 dMod_getAck_46 hR.1.T_open (by omega) (by decide) ?_
    refine g_top (nI ((D.length + 1))) (hpd.1.trans (by rw [hd]; rfl)) ?_
    refine g_iconst 47 (nI 1) dMod_getAck_47 rfl ?_
    refine g_isubN 48 dMod_getAck_48 (by omega) ?_
    refine g_top (nI (D.length)) (rfl) ?_
    refine g_iastN 49 dMod_getAck_49 hR.1.T_open (by omega) (by decide) ?_
    refine g_iconst 50 (nI 0) dMod_getAck_50 rfl ?_
    refine g_istore 51 dMod_getAck_51 (by decide) rfl ?_
    refine g_akM hR.1 he (by omega) (fun M1 hI => ?_) D.length 0 (Nat.zero_add _) _ ⟨Chg.rf.setI (Or.inl (Or.inl ⟨rfl, rfl⟩)), up2_same, fun a ha j hj => ?_⟩
    · have hR1 : RR M1 (yD A e D) := hR.yD he ⟨hI.2.1, by omega, fun j y hj => by
        have := hpd.2.2 (j + 1) y (by rw [hd, List.getElem?_cons_succ]; exact hj)
        have hlt := (List.getElem?_eq_some_iff.mp hj).1
        show mI M1 211 _ = _ ∧ mI M1 212 _ = _
        rw [hI.2.2 211 (Or.inl rfl) j (by omega), hI.2.2 212 (Or.inr rfl) j (by omega), if_pos hlt, if_pos hlt]
        exact this⟩ hI.1
      have hC1 : Chg M M1 mP no2 := mp hI.1 fun a j q => by unfold opP at q; omega
      rcases hkn with q | q | q
      · rw [q]
        exact g_akF_1 hR1 hC1 he hb19
      · rw [q]
        exact g_akF_3 hR1 hC1 he hb19
      · rw [q]
        exact g_akF_4 hR1 hC1 he hb19
    · rw [mI_setI, up2_a (by omega), if_neg (Nat.not_lt_zero _)]
  · exact absurd h6 (by omega)
